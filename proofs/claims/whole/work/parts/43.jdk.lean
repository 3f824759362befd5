/-! the class: its small parts -/
def jd_fm (x y : Int32) : Int32 := if ¬ 0 ≤ x ^^^ y ∧ ¬ x - x / y * y = 0 then x - x / y * y + y else x - x / y * y
theorem jd_fmx : ∀ a, a < 8 → jd_fm (nI a + 1) 8 = nI ((a + 1) % 8) ∧ jd_fm (nI a - 1) 8 = nI ((a + 7) % 8) := by decide +kernel
def jd_ush (x : Int32) (y : Int32) : Int32 := (x.toUInt32 >>> (y.toUInt32 &&& Int32.toUInt32 31)).toInt32
set_option maxHeartbeats 1000000 in
set_option maxRecDepth 100000 in
theorem c_J9_floorMod_7cf53 {z n : Nat} {R : bq_RR} {I : bq_IR} {L : bq_LR} {x y : Int32} (hy : ¬ y = 0) : bq_FC MJ9_floorMod_7cf53 z [.int x, .int y] n R I L 0 0 (some (.int (jd_fm x y))) n R (I) (L) := by
  refine bq_ofI [some (.int x), some (.int y), none] rfl (Nat.le_of_ble_eq_true rfl) (by decide +kernel) rfl rfl ?_
  intro A G hret
  have G : bq_Cx cJ9_floorMod_7cf53 RJ9 3 z (bq_rm MJ9_floorMod_7cf53 0 0) "floorMod" A := G
  refine bq_iload_n (q := 1) G rfl dJ9_floorMod_7cf53_0 rfl ?_
  refine bq_iload_n (q := 2) G rfl dJ9_floorMod_7cf53_1 rfl ?_
  refine bq_irem (q := 3) G hy dJ9_floorMod_7cf53_2 rfl ?_
  refine bq_istore_n (q := 4) (ls' := [_, _, _]) G dJ9_floorMod_7cf53_3 rfl (by decide) rfl rfl ?_
  refine bq_iload_n (q := 5) G rfl dJ9_floorMod_7cf53_4 rfl ?_
  refine bq_iload_n (q := 6) G rfl dJ9_floorMod_7cf53_5 rfl ?_
  refine bq_ixor (q := 7) G dJ9_floorMod_7cf53_6 rfl ?_
  refine bq_if_ge (t := 18) (q := 10) G dJ9_floorMod_7cf53_7 (by decide) rfl (fun c7 => ?_) (fun c7 => ?_)
  · refine bq_iload_n (q := 19) G rfl dJ9_floorMod_7cf53_18 rfl ?_
    exact bq_ri (hret _ _ dJ9_floorMod_7cf53_19) (by unfold jd_fm; rw [if_neg (fun h => h.1 c7)]) rfl rfl
  · refine bq_iload_n (q := 11) G rfl dJ9_floorMod_7cf53_10 rfl ?_
    first | refine bq_ifb_eq (t := 18) (q := 14) G dJ9_floorMod_7cf53_11 (by decide) rfl (fun c11 => ?_) (fun c11 => ?_) | refine bq_if_eq (t := 18) (q := 14) G dJ9_floorMod_7cf53_11 (by decide) rfl (fun c11 => ?_) (fun c11 => ?_)
    · refine bq_iload_n (q := 19) G rfl dJ9_floorMod_7cf53_18 rfl ?_
      exact bq_ri (hret _ _ dJ9_floorMod_7cf53_19) (by unfold jd_fm; rw [if_neg (fun h => h.2 c11)]) rfl rfl
    · refine bq_iload_n (q := 15) G rfl dJ9_floorMod_7cf53_14 rfl ?_
      refine bq_iload_n (q := 16) G rfl dJ9_floorMod_7cf53_15 rfl ?_
      refine bq_iadd (q := 17) G dJ9_floorMod_7cf53_16 rfl ?_
      exact bq_ri (hret _ _ dJ9_floorMod_7cf53_17) (by unfold jd_fm; rw [if_pos ⟨c7, c11⟩]) rfl rfl
set_option maxHeartbeats 1000000 in
set_option maxRecDepth 100000 in
theorem c_J9_abs_067f4 {z n : Nat} {R : bq_RR} {I : bq_IR} {L : bq_LR} {x : Int64}  : bq_FC MJ9_abs_067f4 z [.long x] n R I L 0 0 (some (.long (if 0 ≤ lg_cmp x 0 then x else -x))) n R (I) (L) := by
  refine bq_ofL [some (.long x), none] rfl (Nat.le_of_ble_eq_true rfl) (by decide +kernel) rfl ?_
  intro A G hret
  have G : bq_Cx cJ9_abs_067f4 RJ9 2 z (bq_rm MJ9_abs_067f4 0 0) "abs" A := G
  refine bq_lload_n (q := 1) G rfl dJ9_abs_067f4_0 rfl ?_
  refine bq_lconst (q := 2) (v := 0) G (by decide) dJ9_abs_067f4_1 rfl ?_
  refine bq_lcmp (q := 3) G dJ9_abs_067f4_2 rfl ?_
  refine bq_if_ge (t := 11) (q := 6) G dJ9_abs_067f4_3 (by decide) rfl (fun c3 => ?_) (fun c3 => ?_)
  · refine bq_lload_n (q := 12) G rfl dJ9_abs_067f4_11 rfl ?_
    exact bq_rl (hret _ _ dJ9_abs_067f4_12) (by rw [if_pos c3]) rfl rfl
  · refine bq_lload_n (q := 7) G rfl dJ9_abs_067f4_6 rfl ?_
    refine bq_lneg (q := 8) G dJ9_abs_067f4_7 rfl ?_
    refine bq_goto (q := 12) G dJ9_abs_067f4_8 (by decide) ?_
    exact bq_rl (hret _ _ dJ9_abs_067f4_12) (by rw [if_neg c3]) rfl rfl
def jd_b1 (x : Int32) : Int32 := x - (jd_ush x 1 &&& 1431655765)
def jd_b2 (x : Int32) : Int32 := (x &&& 858993459) + (jd_ush x 2 &&& 858993459)
def jd_b3 (x : Int32) : Int32 := (x + jd_ush x 4) &&& 252645135
def jd_b4 (x : Int32) : Int32 := x + jd_ush x 8
def jd_b5 (x : Int32) : Int32 := x + jd_ush x 16
def jd_bc (x : Int32) : Int32 := jd_b5 (jd_b4 (jd_b3 (jd_b2 (jd_b1 x)))) &&& 63
theorem jd_bcx : ∀ x, x < 256 → jd_bc (nI x) = gs_on (nI x) 8 := by decide +kernel
set_option maxHeartbeats 1000000 in
set_option maxRecDepth 100000 in
theorem c_J6_bitCount_0f7a4 {z n : Nat} {R : bq_RR} {I : bq_IR} {L : bq_LR} {x : Int32}  : bq_FC MJ6_bitCount_0f7a4 z [.int x] n R I L 0 0 (some (.int (jd_bc x))) n R (I) (L) := by
  refine bq_ofI [some (.int x)] rfl (Nat.le_of_ble_eq_true rfl) (by decide +kernel) rfl rfl ?_
  intro A G hret
  have G : bq_Cx cJ6_bitCount_0f7a4 RJ6 1 z (bq_rm MJ6_bitCount_0f7a4 0 0) "bitCount" A := G
  refine bq_iload_n (q := 1) G rfl dJ6_bitCount_0f7a4_0 rfl ?_
  refine bq_iload_n (q := 2) G rfl dJ6_bitCount_0f7a4_1 rfl ?_
  refine bq_iconst (q := 3) (v := 1) G (by decide) dJ6_bitCount_0f7a4_2 rfl ?_
  refine bq_iushr (q := 4) G dJ6_bitCount_0f7a4_3 rfl ?_
  refine bq_ldcw (q := 7) G wk_J6_265 dJ6_bitCount_0f7a4_4 rfl ?_
  refine bq_iand (q := 8) G dJ6_bitCount_0f7a4_7 rfl ?_
  refine bq_isub (q := 9) G dJ6_bitCount_0f7a4_8 rfl ?_
  refine bq_istore_n (q := 10) (ls' := [_]) G dJ6_bitCount_0f7a4_9 rfl (by decide) rfl rfl ?_
  refine bq_iload_n (q := 11) G rfl dJ6_bitCount_0f7a4_10 rfl ?_
  refine bq_ldcw (q := 14) G wk_J6_266 dJ6_bitCount_0f7a4_11 rfl ?_
  refine bq_iand (q := 15) G dJ6_bitCount_0f7a4_14 rfl ?_
  refine bq_iload_n (q := 16) G rfl dJ6_bitCount_0f7a4_15 rfl ?_
  refine bq_iconst (q := 17) (v := 2) G (by decide) dJ6_bitCount_0f7a4_16 rfl ?_
  refine bq_iushr (q := 18) G dJ6_bitCount_0f7a4_17 rfl ?_
  refine bq_ldcw (q := 21) G wk_J6_266 dJ6_bitCount_0f7a4_18 rfl ?_
  refine bq_iand (q := 22) G dJ6_bitCount_0f7a4_21 rfl ?_
  refine bq_iadd (q := 23) G dJ6_bitCount_0f7a4_22 rfl ?_
  refine bq_istore_n (q := 24) (ls' := [_]) G dJ6_bitCount_0f7a4_23 rfl (by decide) rfl rfl ?_
  refine bq_iload_n (q := 25) G rfl dJ6_bitCount_0f7a4_24 rfl ?_
  refine bq_iload_n (q := 26) G rfl dJ6_bitCount_0f7a4_25 rfl ?_
  refine bq_iconst (q := 27) (v := 4) G (by decide) dJ6_bitCount_0f7a4_26 rfl ?_
  refine bq_iushr (q := 28) G dJ6_bitCount_0f7a4_27 rfl ?_
  refine bq_iadd (q := 29) G dJ6_bitCount_0f7a4_28 rfl ?_
  refine bq_ldcw (q := 32) G wk_J6_267 dJ6_bitCount_0f7a4_29 rfl ?_
  refine bq_iand (q := 33) G dJ6_bitCount_0f7a4_32 rfl ?_
  refine bq_istore_n (q := 34) (ls' := [_]) G dJ6_bitCount_0f7a4_33 rfl (by decide) rfl rfl ?_
  refine bq_iload_n (q := 35) G rfl dJ6_bitCount_0f7a4_34 rfl ?_
  refine bq_iload_n (q := 36) G rfl dJ6_bitCount_0f7a4_35 rfl ?_
  refine bq_bipush (q := 38) (v := 8) G (by decide) dJ6_bitCount_0f7a4_36 rfl ?_
  refine bq_iushr (q := 39) G dJ6_bitCount_0f7a4_38 rfl ?_
  refine bq_iadd (q := 40) G dJ6_bitCount_0f7a4_39 rfl ?_
  refine bq_istore_n (q := 41) (ls' := [_]) G dJ6_bitCount_0f7a4_40 rfl (by decide) rfl rfl ?_
  refine bq_iload_n (q := 42) G rfl dJ6_bitCount_0f7a4_41 rfl ?_
  refine bq_iload_n (q := 43) G rfl dJ6_bitCount_0f7a4_42 rfl ?_
  refine bq_bipush (q := 45) (v := 16) G (by decide) dJ6_bitCount_0f7a4_43 rfl ?_
  refine bq_iushr (q := 46) G dJ6_bitCount_0f7a4_45 rfl ?_
  refine bq_iadd (q := 47) G dJ6_bitCount_0f7a4_46 rfl ?_
  refine bq_istore_n (q := 48) (ls' := [_]) G dJ6_bitCount_0f7a4_47 rfl (by decide) rfl rfl ?_
  refine bq_iload_n (q := 49) G rfl dJ6_bitCount_0f7a4_48 rfl ?_
  refine bq_bipush (q := 51) (v := 63) G (by decide) dJ6_bitCount_0f7a4_49 rfl ?_
  refine bq_iand (q := 52) G dJ6_bitCount_0f7a4_51 rfl ?_
  exact hret _ _ dJ6_bitCount_0f7a4_52
def bq_Ce (z n : Nat) (R : bq_RR) (c : Nat) : Prop := bq_OB n c 0 ∧ bq_AR n (c + 1) 0 5 ∧ R c 0 = some (z + (c + 1)) ∧ R c 1 = some (z + (c + 2)) ∧ bq_Mo z n R (c + 2)
theorem bq_Ce5 (z : Nat) : bq_Ce z 85 (bq_Rf z) 5 := ⟨⟨by decide, rfl⟩, ⟨by decide, rfl⟩, rfl, rfl, bq_Mo7 z⟩
theorem bq_Ce11 (z : Nat) : bq_Ce z 85 (bq_Rf z) 11 := ⟨⟨by decide, rfl⟩, ⟨by decide, rfl⟩, rfl, rfl, bq_Mo13 z⟩
def gs_hgt (a w : Int32) : Int32 := if 1 ≤ a then w / a else 0
theorem gs_hgt1 {a w : Int32} (h : 1 ≤ a) : gs_hgt a w = w / a := if_pos h
set_option maxHeartbeats 1000000 in
set_option maxRecDepth 100000 in
theorem c_X0_drainCups {z n : Nat} {R : bq_RR} {I : bq_IR} {L : bq_LR} {c : Nat} (hC : bq_Ce z n R c) : bq_FC MX0_drainCups z [.ref (z + c)] n R I L 0 0 (some (.int (I (c + 1) 2))) n R (I) (L) := by
  refine bq_ofI [some (.ref (z + c))] rfl (Nat.le_of_ble_eq_true rfl) (by decide) rfl rfl ?_
  intro A G hret
  have G : bq_Cx cX0_drainCups RX0 1 z (bq_rm MX0_drainCups 0 0) "drainCups" A := G
  obtain ⟨ho, ha, h0, h1, hm⟩ := hC
  refine bq_aload_n (q := 1) G rfl dX0_drainCups_0 rfl ?_
  refine bq_getr (q := 4) G dX0_drainCups_1 rfl fl_X0_9 (by first | assumption | exact ⟨Nat.le_of_ble_eq_true rfl, rfl⟩) (fun _ _ _ => rfl) (by first | assumption | rfl) ?_
  refine bq_iconst (q := 5) (v := 2) G (by decide) dX0_drainCups_4 rfl ?_
  refine bq_iald (q := 6) (b := 2) G dX0_drainCups_5 rfl (by first | assumption | exact ⟨Nat.le_of_ble_eq_true rfl, rfl⟩) rfl (by first | with_reducible assumption | omega | decide) (by decide) ?_
  exact hret _ _ dX0_drainCups_6
set_option maxHeartbeats 1000000 in
set_option maxRecDepth 100000 in
theorem c_X0_stairWidth {z n : Nat} {R : bq_RR} {I : bq_IR} {L : bq_LR} {c : Nat} (hC : bq_Ce z n R c) : bq_FC MX0_stairWidth z [.ref (z + c)] n R I L 0 0 (some (.int (I (c + 1) 4))) n R (I) (L) := by
  refine bq_ofI [some (.ref (z + c))] rfl (Nat.le_of_ble_eq_true rfl) (by decide) rfl rfl ?_
  intro A G hret
  have G : bq_Cx cX0_stairWidth RX0 1 z (bq_rm MX0_stairWidth 0 0) "stairWidth" A := G
  obtain ⟨ho, ha, h0, h1, hm⟩ := hC
  refine bq_aload_n (q := 1) G rfl dX0_stairWidth_0 rfl ?_
  refine bq_getr (q := 4) G dX0_stairWidth_1 rfl fl_X0_9 (by first | assumption | exact ⟨Nat.le_of_ble_eq_true rfl, rfl⟩) (fun _ _ _ => rfl) (by first | assumption | rfl) ?_
  refine bq_iconst (q := 5) (v := 4) G (by decide) dX0_stairWidth_4 rfl ?_
  refine bq_iald (q := 6) (b := 4) G dX0_stairWidth_5 rfl (by first | assumption | exact ⟨Nat.le_of_ble_eq_true rfl, rfl⟩) rfl (by first | with_reducible assumption | omega | decide) (by decide) ?_
  exact hret _ _ dX0_stairWidth_6
set_option maxHeartbeats 1000000 in
set_option maxRecDepth 100000 in
theorem c_X0_heightOf {z n : Nat} {R : bq_RR} {I : bq_IR} {L : bq_LR} {c : Nat} {w : Int32} (hC : bq_Ce z n R c) : bq_FC MX0_heightOf z [.ref (z + c), .int w] n R I L 0 0 (some (.int (gs_hgt (I (c + 1) 1) w))) n R (I) (L) := by
  refine bq_ofI [some (.ref (z + c)), some (.int w), none] rfl (Nat.le_of_ble_eq_true rfl) (by decide) rfl rfl ?_
  intro A G hret
  have G : bq_Cx cX0_heightOf RX0 3 z (bq_rm MX0_heightOf 0 0) "heightOf" A := G
  obtain ⟨ho, ha, h0, h1, hm⟩ := hC
  refine bq_aload_n (q := 1) G rfl dX0_heightOf_0 rfl ?_
  refine bq_getr (q := 4) G dX0_heightOf_1 rfl fl_X0_9 (by first | assumption | exact ⟨Nat.le_of_ble_eq_true rfl, rfl⟩) (fun _ _ _ => rfl) (by first | assumption | rfl) ?_
  refine bq_iconst (q := 5) (v := 1) G (by decide) dX0_heightOf_4 rfl ?_
  refine bq_iald (q := 6) (b := 1) G dX0_heightOf_5 rfl (by first | assumption | exact ⟨Nat.le_of_ble_eq_true rfl, rfl⟩) rfl (by first | with_reducible assumption | omega | decide) (by decide) ?_
  refine bq_istore_n (q := 7) (ls' := [_, _, _]) G dX0_heightOf_6 rfl (by decide) rfl rfl ?_
  refine bq_iload_n (q := 8) G rfl dX0_heightOf_7 rfl ?_
  refine bq_iconst (q := 9) (v := 1) G (by decide) dX0_heightOf_8 rfl ?_
  refine bq_icmp_ge (t := 16) (q := 12) G dX0_heightOf_9 (by decide) rfl (fun c9 => ?_) (fun c9 => ?_)
  · refine bq_iload_n (q := 17) G rfl dX0_heightOf_16 rfl ?_
    refine bq_iload_n (q := 18) G rfl dX0_heightOf_17 rfl ?_
    refine bq_idiv (q := 19) G (fun h => by rw [h] at c9; exact absurd c9 (by decide)) dX0_heightOf_18 rfl ?_
    exact bq_ri (hret _ _ dX0_heightOf_19) (by unfold gs_hgt; rw [if_pos c9]) rfl rfl
  · refine bq_iconst (q := 13) (v := 0) G (by decide) dX0_heightOf_12 rfl ?_
    refine bq_goto (q := 19) G dX0_heightOf_13 (by decide) ?_
    exact bq_ri (hret _ _ dX0_heightOf_19) (by unfold gs_hgt; rw [if_neg c9]) rfl rfl
set_option maxHeartbeats 1000000 in
set_option maxRecDepth 100000 in
theorem c_X0_isAboveMark {z n : Nat} {R : bq_RR} {I : bq_IR} {L : bq_LR} {c : Nat} {w : Int32} (hC : bq_Ce z n R c) : bq_FC MX0_isAboveMark z [.ref (z + c), .int w] n R I L 0 0 (some (.int (if gs_hgt (I (c + 1) 1) w ≤ I (c + 1) 3 then 0 else 1))) n R (I) (L) := by
  refine bq_ofI [some (.ref (z + c)), some (.int w)] rfl (Nat.le_of_ble_eq_true rfl) (by decide) rfl (by first | rfl | exact bq_nb _ | (split <;> rfl)) ?_
  intro A G hret
  have G : bq_Cx cX0_isAboveMark RX0 2 z (bq_rm MX0_isAboveMark 0 0) "isAboveMark" A := G
  have hC0 := hC
  obtain ⟨ho, ha, h0, h1, hm⟩ := hC
  refine bq_aload_n (q := 1) G rfl dX0_isAboveMark_0 rfl ?_
  refine bq_iload_n (q := 2) G rfl dX0_isAboveMark_1 rfl ?_
  refine bq_callv (q := 5) G dX0_isAboveMark_2 rfl cl_X0_44 (c_X0_heightOf hC0) rfl (by first | assumption | exact ⟨Nat.le_of_ble_eq_true rfl, rfl⟩) rfl ⟨Nat.le_of_ble_eq_true rfl, Nat.le_of_ble_eq_true rfl⟩ (Nat.le_of_ble_eq_true rfl) ⟨Nat.le_of_ble_eq_true rfl, Nat.le_of_ble_eq_true rfl⟩ rfl ?_
  refine bq_aload_n (q := 6) G rfl dX0_isAboveMark_5 rfl ?_
  refine bq_getr (q := 9) G dX0_isAboveMark_6 rfl fl_X0_9 (by first | assumption | exact ⟨Nat.le_of_ble_eq_true rfl, rfl⟩) (fun _ _ _ => rfl) (by first | assumption | rfl) ?_
  refine bq_iconst (q := 10) (v := 3) G (by decide) dX0_isAboveMark_9 rfl ?_
  refine bq_iald (q := 11) (b := 3) G dX0_isAboveMark_10 rfl (by first | assumption | exact ⟨Nat.le_of_ble_eq_true rfl, rfl⟩) rfl (by first | with_reducible assumption | omega | decide) (by decide) ?_
  refine bq_icmp_le (t := 18) (q := 14) G dX0_isAboveMark_11 (by decide) rfl (fun c11 => ?_) (fun c11 => ?_)
  · refine bq_iconst (q := 19) (v := 0) G (by decide) dX0_isAboveMark_18 rfl ?_
    exact bq_ri (hret _ _ dX0_isAboveMark_19) (by rw [if_pos c11]) rfl rfl
  · refine bq_iconst (q := 15) (v := 1) G (by decide) dX0_isAboveMark_14 rfl ?_
    refine bq_goto (q := 19) G dX0_isAboveMark_15 (by decide) ?_
    exact bq_ri (hret _ _ dX0_isAboveMark_19) (by rw [if_neg c11]) rfl rfl
