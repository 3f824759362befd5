def gs_flow (S : Nat → Int32) (c : Int32) : Int64 := if 0 ≤ c ∧ c ≤ 1 then (if c = 0 then lZ (fr_A S 8).1 else lN (fr_A S 8).2) else -1000000
set_option maxHeartbeats 1000000 in
set_option maxRecDepth 100000 in
theorem c_X9_flow {z : Nat} {I : bq_IR} {L : bq_LR} {c : Int32} (hS : gs_Ok (I 79)) : bq_FC MX9_flow z [.ref (z + 75), .int c] 85 (bq_Rf z) I L 0 0 (some (.long (gs_flow (I 79) c))) 85 (bq_Rf z) (I) (L) := by
  refine bq_ofL [some (.ref (z + 75)), some (.int c), none, none, none, none, none, none, none, none, none, none, none] rfl (Nat.le_of_ble_eq_true rfl) (by decide) rfl ?_
  intro A G hret
  have G : bq_Cx cX9_flow RX9 13 z (bq_rm MX9_flow 0 0) "flow" A := G
  refine bq_iload_n (q := 1) G rfl dX9_flow_0 rfl ?_
  refine bq_iconst (q := 2) (v := 0) G (by decide) dX9_flow_1 rfl ?_
  refine bq_iconst (q := 3) (v := 1) G (by decide) dX9_flow_2 rfl ?_
  refine bq_calls (q := 6) G dX9_flow_3 rfl cl_X9_45 (c_X9_in) rfl rfl ⟨Nat.le_of_ble_eq_true rfl, Nat.le_of_ble_eq_true rfl⟩ (Nat.le_of_ble_eq_true rfl) ⟨Nat.le_of_ble_eq_true rfl, Nat.le_of_ble_eq_true rfl⟩ rfl ?_
  first | refine bq_ifb_ne (t := 13) (q := 9) G dX9_flow_6 (by decide) rfl (fun c6 => ?_) (fun c6 => ?_) | refine bq_if_ne (t := 13) (q := 9) G dX9_flow_6 (by decide) rfl (fun c6 => ?_) (fun c6 => ?_)
  · have loop : ∀ k, k ≤ 8 → A 0 0 21 [some (.ref (z + 75)), some (.int c), some (.long (lZ (fr_A (I 79) k).1)), none, some (.long (lN (fr_A (I 79) k).2)), none, some (.int (nI k)), none, none, none, none, none, none] [] 85 (bq_Rf z) I L := by
      refine bq_down 8 ?_
      intro k hk ih
      rcases Nat.lt_or_ge k 8 with hk8 | hk8
      · have ih := ih hk8
        rw [fr_A_s] at ih
        obtain ⟨⟨i1, i2⟩, i3⟩ := fr_inv hS k hk
        have pw := fr_pow k hk
        refine bq_iload (q := 23) G rfl dX9_flow_21 rfl ?_
        refine bq_bipush (q := 25) (v := 8) G (by decide) dX9_flow_23 rfl ?_
        refine bq_icmp_ge_f (q := 28) (t := 146) G dX9_flow_25 rfl (by decide) (nI_ge (a := k) (b := 8) hk8 (by decide)) ?_
        refine bq_aload_n (q := 29) G rfl dX9_flow_28 rfl ?_
        refine bq_getr (q := 32) G dX9_flow_29 rfl fl_X9_19 (by first | assumption | exact ⟨Nat.le_of_ble_eq_true rfl, rfl⟩) (fun _ _ _ => rfl) (rf_75_5 z) ?_
        refine bq_bipush (q := 34) (v := 51) G (by decide) dX9_flow_32 rfl ?_
        refine bq_iload (q := 36) G rfl dX9_flow_34 rfl ?_
        refine bq_iadd (q := 37) G dX9_flow_36 rfl ?_
        refine bq_iald (q := 38) G dX9_flow_37 rfl (by first | assumption | exact ⟨Nat.le_of_ble_eq_true rfl, rfl⟩) (bq_ixa (a := 51) rfl (by first | with_reducible assumption | with_reducible exact rfl | exact rfl)) (by first | with_reducible assumption | omega | decide) (by decide) ?_
        refine bq_iconst (q := 39) (v := 1) G (by decide) dX9_flow_38 rfl ?_
        refine bq_icmp_ne (t := 140) (q := 42) G dX9_flow_39 (by decide) rfl (fun c39 => ?_) (fun c39 => ?_)
        · rw [if_neg c39] at ih
          refine bq_iinc (q := 143) (ls' := [_, _, _, _, _, _, _, _, _, _, _, _, _]) G dX9_flow_140 rfl rfl (by first | exact nI_1 _ | exact pk_m1 _ | rfl) (by decide) rfl rfl ?_
          refine bq_goto (q := 21) G dX9_flow_143 (by decide) ?_
          exact ih
        · rw [if_pos c39] at ih
          obtain ⟨p1, p2, pe⟩ := fr_p_in hS hk8 c39
          have s1 := fr_s_in hS hk8
          have st := fr_step i1 p1 p2 i3 s1 i2
          obtain ⟨B', p', g, ⟨g0, B0, p0⟩, hg, q1, q2, q3, q4, q5, q6⟩ := fr_lcm (A := (fr_A (I 79) k).1) (s := fr_s (I 79) k) i1 (show 0 < fr_p (I 79) k by omega)
          rw [← q5, ← q6] at ih
          generalize fr_A (I 79) k = AB at *
          obtain ⟨A0, B⟩ := AB
          simp only at *
          generalize fr_p (I 79) k = p at *
          have hgB : g ≤ B := by rw [← hg]; exact Nat.gcd_le_left _ i1
          have hBp : B * p ≤ 262144000000000 := by have := Nat.mul_le_mul i2 p2; omega
          have hB1 : B < 2 ^ 60 := by omega
          have cc1 : fr_g (B : Int) p = g := by unfold fr_g; rw [Int.natAbs_natCast]; exact hg
          have al : lN B / lN g * lN p = lN (B' * p) := by rw [pk_lDiv (by omega) g0 (by omega), q1, lN_mul]
          have hall : 0 < B' * p := Nat.mul_pos B0 (by omega)
          have fin : ∀ y : Int64, y = lZ (fr_s (I 79) k) → A 0 0 108 [some (.ref (z + 75)), some (.int c), some (.long (lZ A0)), none, some (.long (lN B)), none, some (.int (nI k)), some (.long (lN p)), none, some (.long (lN (B' * p))), none, none, none] [.long y, .long (lZ A0 * lN p')] 85 (bq_Rf z) I L := by
            intro y hy
            subst hy
            have X1 : lZ A0 * lN p' + lZ (fr_s (I 79) k) * lN B' = lZ (A0 * p' + fr_s (I 79) k * B') := by rw [← lZ_N, ← lZ_N, lZ_mul, lZ_mul, lZ_add]
            have hXb : -(2 ^ 60) ≤ A0 * p' + fr_s (I 79) k * B' ∧ A0 * p' + fr_s (I 79) k * B' ≤ 2 ^ 60 := by
              have hp'p : p' ≤ p := by rw [← q2]; exact Nat.div_le_of_le_mul q4
              have hB'B : B' ≤ B := by rw [← q1]; exact Nat.div_le_self _ _
              have hkB : (64 * k * B : Int) ≤ 512 * B := Int.mul_le_mul_of_nonneg_right (show 64 * (k : Int) ≤ 512 by omega) (by omega)
              have a1 : A0 ≤ 3355443200000000 := by omega
              have a2 : -3355443200000000 ≤ A0 := by omega
              have b1 : A0 * p' ≤ 3355443200000000 * p' := Int.mul_le_mul_of_nonneg_right a1 (by omega)
              have b2 : -3355443200000000 * p' ≤ A0 * p' := Int.mul_le_mul_of_nonneg_right a2 (by omega)
              have c1 : fr_s (I 79) k * B' ≤ 64 * B' := Int.mul_le_mul_of_nonneg_right s1.2 (by omega)
              have c2 : -64 * B' ≤ fr_s (I 79) k * B' := Int.mul_le_mul_of_nonneg_right s1.1 (by omega)
              omega
            have gp : 0 < fr_g (A0 * p' + fr_s (I 79) k * B') (B' * p) := fr_g_pos hall
            have gl := fr_g_le (X := A0 * p' + fr_s (I 79) k * B') hall
            have ne0 : ∀ q : Nat, 0 < q → q < 2 ^ 61 → ¬ lN q = 0 := fun q h1 h2 h => by
              rw [show (0 : Int64) = lN 0 from rfl, pk_lEQ (by omega) (by decide)] at h; omega
            refine bq_lload (q := 110) G rfl dX9_flow_108 rfl ?_
            refine bq_lload (q := 112) G rfl dX9_flow_110 rfl ?_
            refine bq_ldiv (q := 113) G (ne0 _ (by omega) (by omega)) dX9_flow_112 rfl ?_
            refine bq_lmul (q := 114) G dX9_flow_113 rfl ?_
            refine bq_ladd (q := 115) G dX9_flow_114 rfl ?_
            refine bq_top (congrArg Value.long (by rw [pk_lDiv (by omega) (by omega) (by omega), q3, X1])) ?_
            refine bq_lstore_n (q := 116) (ls' := [_, _, _, _, _, _, _, _, _, _, _, _, _]) G dX9_flow_115 rfl (by decide) rfl rfl ?_
            refine bq_lload (q := 118) G rfl dX9_flow_116 rfl ?_
            refine bq_lstore (q := 120) (ls' := [_, _, _, _, _, _, _, _, _, _, _, _, _]) G dX9_flow_118 rfl (by decide) rfl rfl ?_
            refine bq_lload_n (q := 121) G rfl dX9_flow_120 rfl ?_
            refine bq_lload (q := 123) G rfl dX9_flow_121 rfl ?_
            refine bq_calls (q := 126) G dX9_flow_123 rfl cl_X9_156 (c_common rfl rfl (by omega) (by omega) (by omega)) rfl rfl ⟨Nat.le_of_ble_eq_true rfl, Nat.le_of_ble_eq_true rfl⟩ (Nat.le_of_ble_eq_true rfl) ⟨Nat.le_of_ble_eq_true rfl, Nat.le_of_ble_eq_true rfl⟩ rfl ?_
            refine bq_lstore (q := 128) (ls' := [_, _, _, _, _, _, _, _, _, _, _, _, _]) G dX9_flow_126 rfl (by decide) rfl rfl ?_
            refine bq_lload_n (q := 129) G rfl dX9_flow_128 rfl ?_
            refine bq_lload (q := 131) G rfl dX9_flow_129 rfl ?_
            refine bq_ldiv (q := 132) G (ne0 _ gp (by omega)) dX9_flow_131 rfl ?_
            refine bq_top (congrArg Value.long (lZ_div (by omega) (by omega) gp (by omega) (fr_g_dl _ _))) ?_
            refine bq_lstore_n (q := 133) (ls' := [_, _, _, _, _, _, _, _, _, _, _, _, _]) G dX9_flow_132 rfl (by decide) rfl rfl ?_
            refine bq_lload (q := 135) G rfl dX9_flow_133 rfl ?_
            refine bq_lload (q := 137) G rfl dX9_flow_135 rfl ?_
            refine bq_ldiv (q := 138) G (ne0 _ gp (by omega)) dX9_flow_137 rfl ?_
            refine bq_top (congrArg Value.long (pk_lDiv (by omega) gp (by omega))) ?_
            refine bq_lstore (q := 140) (ls' := [_, _, _, _, _, _, _, _, _, _, _, _, _]) G dX9_flow_138 rfl (by decide) rfl rfl ?_
            refine bq_iinc (q := 143) (ls' := [_, _, _, _, _, _, _, _, _, _, _, _, _]) G dX9_flow_140 rfl rfl (by first | exact nI_1 _ | exact pk_m1 _ | rfl) (by decide) rfl rfl ?_
            refine bq_goto (q := 21) G dX9_flow_143 (by decide) ?_
            refine bq_forget G ?_ ih
            repeat (first | exact bq_le_0 _ | refine bq_le_n ?_ | refine bq_le_s rfl ?_)
          have ne1 : ∀ q : Nat, 0 < q → q < 2 ^ 61 → ¬ lN q = 0 := fun q h1 h2 h => by
            rw [show (0 : Int64) = lN 0 from rfl, pk_lEQ (by omega) (by decide)] at h; omega
          have eB : lN B' * lN p = lN (B' * p) := lN_mul B' p
          refine bq_aload_n (q := 43) G rfl dX9_flow_42 rfl ?_
          refine bq_getr (q := 46) G dX9_flow_43 rfl fl_X9_19 (by first | assumption | exact ⟨Nat.le_of_ble_eq_true rfl, rfl⟩) (fun _ _ _ => rfl) (rf_75_5 z) ?_
          refine bq_bipush (q := 48) (v := 11) G (by decide) dX9_flow_46 rfl ?_
          refine bq_iload (q := 50) G rfl dX9_flow_48 rfl ?_
          refine bq_iadd (q := 51) G dX9_flow_50 rfl ?_
          refine bq_iald (q := 52) G dX9_flow_51 rfl (by first | assumption | exact ⟨Nat.le_of_ble_eq_true rfl, rfl⟩) (bq_ixa (a := 11) rfl (by first | with_reducible assumption | with_reducible exact rfl | exact rfl)) (by first | with_reducible assumption | omega | decide) (by decide) ?_
          refine bq_i2l (q := 53) G dX9_flow_52 rfl ?_
          refine bq_top (congrArg Value.long (pe)) ?_
          refine bq_lstore (q := 55) (ls' := [_, _, _, _, _, _, _, _, _, _, _, _, _]) G dX9_flow_53 rfl (by decide) rfl rfl ?_
          refine bq_lload (q := 57) G rfl dX9_flow_55 rfl ?_
          refine bq_lload (q := 59) G rfl dX9_flow_57 rfl ?_
          refine bq_lload (q := 61) G rfl dX9_flow_59 rfl ?_
          refine bq_calls (q := 64) G dX9_flow_61 rfl cl_X9_156 (c_common (X := (B : Int)) (lZ_N B).symm rfl (by omega) (by omega) (by omega)) rfl rfl ⟨Nat.le_of_ble_eq_true rfl, Nat.le_of_ble_eq_true rfl⟩ (Nat.le_of_ble_eq_true rfl) ⟨Nat.le_of_ble_eq_true rfl, Nat.le_of_ble_eq_true rfl⟩ rfl ?_
          refine bq_ldiv (q := 65) G (by rw [cc1]; exact ne1 g g0 (by omega)) dX9_flow_64 rfl ?_
          refine bq_lload (q := 67) G rfl dX9_flow_65 rfl ?_
          refine bq_lmul (q := 68) G dX9_flow_67 rfl ?_
          refine bq_top (congrArg Value.long (show lN B / lN (fr_g (B : Int) p) * lN p = lN (B' * p) by rw [cc1]; exact al)) ?_
          refine bq_lstore (q := 70) (ls' := [_, _, _, _, _, _, _, _, _, _, _, _, _]) G dX9_flow_68 rfl (by decide) rfl rfl ?_
          have eq2 : lN (B' * p) / lN B = lN p' := by rw [pk_lDiv (by omega) i1 (by omega), q2]
          have hld := gs_ld_in (hS.2 k hk8).1
          refine bq_lload_n (q := 71) G rfl dX9_flow_70 rfl ?_
          refine bq_lload (q := 73) G rfl dX9_flow_71 rfl ?_
          refine bq_lload (q := 75) G rfl dX9_flow_73 rfl ?_
          refine bq_ldiv (q := 76) G (ne1 B i1 (by omega)) dX9_flow_75 rfl ?_
          refine bq_lmul (q := 77) G dX9_flow_76 rfl ?_
          refine bq_aload_n (q := 78) G rfl dX9_flow_77 rfl ?_
          refine bq_getr (q := 81) G dX9_flow_78 rfl fl_X9_19 (by first | assumption | exact ⟨Nat.le_of_ble_eq_true rfl, rfl⟩) (fun _ _ _ => rfl) (rf_75_5 z) ?_
          refine bq_bipush (q := 83) (v := 27) G (by decide) dX9_flow_81 rfl ?_
          refine bq_iload (q := 85) G rfl dX9_flow_83 rfl ?_
          refine bq_iadd (q := 86) G dX9_flow_85 rfl ?_
          refine bq_iald (q := 87) G dX9_flow_86 rfl (by first | assumption | exact ⟨Nat.le_of_ble_eq_true rfl, rfl⟩) (bq_ixa (a := 27) rfl (by first | with_reducible assumption | with_reducible exact rfl | exact rfl)) (by first | with_reducible assumption | omega | decide) (by decide) ?_
          refine bq_iconst (q := 88) (v := 1) G (by decide) dX9_flow_87 rfl ?_
          refine bq_icmp_ne (t := 101) (q := 91) G dX9_flow_88 (by decide) rfl (fun c88 => ?_) (fun c88 => ?_)
          · refine bq_aload_n (q := 102) G rfl dX9_flow_101 rfl ?_
            refine bq_iload (q := 104) G rfl dX9_flow_102 rfl ?_
            refine bq_callv (q := 107) G dX9_flow_104 rfl cl_X9_107 (c_X9_carries hk8) rfl (by first | assumption | exact ⟨Nat.le_of_ble_eq_true rfl, rfl⟩) rfl ⟨Nat.le_of_ble_eq_true rfl, Nat.le_of_ble_eq_true rfl⟩ (Nat.le_of_ble_eq_true rfl) ⟨Nat.le_of_ble_eq_true rfl, Nat.le_of_ble_eq_true rfl⟩ rfl ?_
            refine bq_i2l (q := 108) G dX9_flow_107 rfl ?_
            rw [eq2]
            exact fin _ (by rw [lZ_i]; unfold fr_s; rw [if_neg c88])
          · refine bq_aload_n (q := 92) G rfl dX9_flow_91 rfl ?_
            refine bq_iload (q := 94) G rfl dX9_flow_92 rfl ?_
            refine bq_callv (q := 97) G dX9_flow_94 rfl cl_X9_107 (c_X9_carries hk8) rfl (by first | assumption | exact ⟨Nat.le_of_ble_eq_true rfl, rfl⟩) rfl ⟨Nat.le_of_ble_eq_true rfl, Nat.le_of_ble_eq_true rfl⟩ (Nat.le_of_ble_eq_true rfl) ⟨Nat.le_of_ble_eq_true rfl, Nat.le_of_ble_eq_true rfl⟩ rfl ?_
            refine bq_ineg (q := 98) G dX9_flow_97 rfl ?_
            refine bq_goto (q := 107) G dX9_flow_98 (by decide) ?_
            refine bq_i2l (q := 108) G dX9_flow_107 rfl ?_
            rw [eq2]
            exact fin _ (by rw [lZ_i, gs_toInt_neg (by omega) (by omega)]; unfold fr_s; rw [if_pos c88])
      · have hk9 : k = 8 := by omega
        subst hk9
        refine bq_iload (q := 23) G rfl dX9_flow_21 rfl ?_
        refine bq_bipush (q := 25) (v := 8) G (by decide) dX9_flow_23 rfl ?_
        refine bq_icmp_ge_t (t := 146) G dX9_flow_25 (by decide) (nI_le (a := 8) (b := 8) (by omega) (by decide)) ?_
        refine bq_iload_n (q := 147) G rfl dX9_flow_146 rfl ?_
        first | refine bq_ifb_ne (t := 154) (q := 150) G dX9_flow_147 (by decide) rfl (fun c147 => ?_) (fun c147 => ?_) | refine bq_if_ne (t := 154) (q := 150) G dX9_flow_147 (by decide) rfl (fun c147 => ?_) (fun c147 => ?_)
        · refine bq_lload (q := 156) G rfl dX9_flow_154 rfl ?_
          exact bq_rl (hret _ _ dX9_flow_156) (by unfold gs_flow; rw [if_pos c6, if_neg c147]) rfl rfl
        · refine bq_lload_n (q := 151) G rfl dX9_flow_150 rfl ?_
          refine bq_goto (q := 156) G dX9_flow_151 (by decide) ?_
          exact bq_rl (hret _ _ dX9_flow_156) (by unfold gs_flow; rw [if_pos c6, if_pos c147]) rfl rfl
    refine bq_lconst (q := 14) (v := 0) G (by decide) dX9_flow_13 rfl ?_
    refine bq_lstore_n (q := 15) (ls' := [_, _, _, _, _, _, _, _, _, _, _, _, _]) G dX9_flow_14 rfl (by decide) rfl rfl ?_
    refine bq_lconst (q := 16) (v := 1) G (by decide) dX9_flow_15 rfl ?_
    refine bq_lstore (q := 18) (ls' := [_, _, _, _, _, _, _, _, _, _, _, _, _]) G dX9_flow_16 rfl (by decide) rfl rfl ?_
    refine bq_iconst (q := 19) (v := 0) G (by decide) dX9_flow_18 rfl ?_
    refine bq_istore (q := 21) (ls' := [_, _, _, _, _, _, _, _, _, _, _, _, _]) G dX9_flow_19 rfl (by decide) rfl rfl ?_
    exact loop 0 (by omega)
  · refine bq_ldc2 (q := 12) G wk_X9_154 dX9_flow_9 rfl ?_
    exact bq_rl (hret _ _ dX9_flow_12) (by unfold gs_flow; rw [if_neg c6]) rfl rfl
