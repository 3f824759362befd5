/-! what the model does: type, clear, counts, what is done, undone, kept -/
def gs_inr (a b n : Int32) : Prop := a ≤ n ∧ n ≤ b
theorem gs_rng {M n : Int32} {k : Nat} (hM : M.toInt = k) (h : 0 ≤ n ∧ n ≤ M) : ∃ m : Nat, m ≤ k ∧ n = nI m := nI_of2 hM (Int32.not_lt.mpr h.1) h.2
theorem bq_ixm {x y : Int32} {a b : Nat} (hx : x = nI a) (hy : y = nI b) : x * y = nI (a * b) := by rw [hx, hy, pk_mul]
/-- only these cells differ -/
def gs_df (I J : bq_IR) (l : List Nat) : Prop := ∀ x, x ∉ l → J x = I x
theorem gs_df.rf (I : bq_IR) (l : List Nat) : gs_df I I l := fun _ _ => rfl
theorem gs_df.sr {I J : bq_IR} {l : List Nat} (h : gs_df I J l) {a : Nat} (ha : a ∈ l) (f : Nat → Int32) : gs_df I (bq_sr J a f) l := fun x hx => by
  rw [bq_sr_n (fun e => hx (by rw [e]; exact ha))]; exact h x hx
theorem gs_df.mono {I J : bq_IR} {l l' : List Nat} (h : gs_df I J l) (hl : ∀ x, x ∈ l → x ∈ l') : gs_df I J l' := fun x hx => h x (fun h2 => hx (hl x h2))
theorem gs_df.tr {I J K : bq_IR} {l : List Nat} (h : gs_df I J l) (h2 : gs_df J K l) : gs_df I K l := fun x hx => (h2 x hx).trans (h x hx)
set_option maxHeartbeats 1000000 in
set_option maxRecDepth 100000 in
theorem c_X9_type {z : Nat} {I : bq_IR} {L : bq_LR} {c : Int32} {t : Nat} (ht : I 75 2 = nI t) (htl : t ≤ 200) : bq_FI MX9_type z [.ref (z + 75), .int c] 85 (bq_Rf z) I L (fun r J L' => ((if 0 ≤ c ∧ c ≤ 255 then (if t = 200 then r = -3 ∧ J = I else r = nI (t + 1) ∧ J = bq_sr (bq_sr I 76 (upd (I 76) t c)) 75 (upd (I 75) 2 (nI (t + 1)))) else r = -1 ∧ J = I)) ∧ L' = L) := by
  refine bq_FIof [some (.ref (z + 75)), some (.int c)] rfl (Nat.le_of_ble_eq_true rfl) (by decide) rfl (fun _ _ _ _ => rfl) ?_
  intro A G hret
  have G : bq_Cx cX9_type RX9 2 z (bq_rm MX9_type 0 0) "type" A := G
  refine bq_iload_n (q := 1) G rfl dX9_type_0 rfl ?_
  refine bq_iconst (q := 2) (v := 0) G (by decide) dX9_type_1 rfl ?_
  refine bq_sipush (q := 5) (v := 255) G (by decide) dX9_type_2 rfl ?_
  refine bq_calls (q := 8) G dX9_type_5 rfl cl_X9_45 (c_X9_in) rfl rfl ⟨Nat.le_of_ble_eq_true rfl, Nat.le_of_ble_eq_true rfl⟩ (Nat.le_of_ble_eq_true rfl) ⟨Nat.le_of_ble_eq_true rfl, Nat.le_of_ble_eq_true rfl⟩ rfl ?_
  first | refine bq_ifb_ne (t := 13) (q := 11) G dX9_type_8 (by decide) rfl (fun c8 => ?_) (fun c8 => ?_) | refine bq_if_ne (t := 13) (q := 11) G dX9_type_8 (by decide) rfl (fun c8 => ?_) (fun c8 => ?_)
  · refine bq_aload_n (q := 14) G rfl dX9_type_13 rfl ?_
    refine bq_geti (q := 17) G dX9_type_14 rfl fl_X9_53 (by first | assumption | exact ⟨Nat.le_of_ble_eq_true rfl, rfl⟩) rfl ?_
    refine bq_sipush (q := 20) (v := 200) G (by decide) dX9_type_17 rfl ?_
    refine bq_icmp_ne (t := 26) (q := 23) G dX9_type_20 (by decide) rfl (fun c20 => ?_) (fun c20 => ?_)
    · have ht2 : t < 200 := by
        rcases Nat.lt_or_ge t 200 with h | h
        · exact h
        · exact absurd (by rw [ht, show t = 200 by omega]; rfl) c20
      refine bq_aload_n (q := 27) G rfl dX9_type_26 rfl ?_
      refine bq_getr (q := 30) G dX9_type_27 rfl fl_X9_7 (by first | assumption | exact ⟨Nat.le_of_ble_eq_true rfl, rfl⟩) (fun _ _ _ => rfl) (rf_75_1 z) ?_
      refine bq_aload_n (q := 31) G rfl dX9_type_30 rfl ?_
      refine bq_geti (q := 34) G dX9_type_31 rfl fl_X9_53 (by first | assumption | exact ⟨Nat.le_of_ble_eq_true rfl, rfl⟩) rfl ?_
      refine bq_iload_n (q := 35) G rfl dX9_type_34 rfl ?_
      refine bq_iast (q := 36) (b := t) G dX9_type_35 rfl (by first | assumption | exact ⟨Nat.le_of_ble_eq_true rfl, rfl⟩) ht (by first | with_reducible assumption | omega | decide) (by decide) ?_
      refine bq_aload_n (q := 37) G rfl dX9_type_36 rfl ?_
      refine bq_dup (q := 38) G rfl dX9_type_37 rfl ?_
      refine bq_geti (q := 41) G dX9_type_38 rfl fl_X9_53 (by first | assumption | exact ⟨Nat.le_of_ble_eq_true rfl, rfl⟩) rfl ?_
      refine bq_iconst (q := 42) (v := 1) G (by decide) dX9_type_41 rfl ?_
      refine bq_iadd (q := 43) G dX9_type_42 rfl ?_
      refine bq_puti (q := 46) G dX9_type_43 rfl fl_X9_53 (by first | assumption | exact ⟨Nat.le_of_ble_eq_true rfl, rfl⟩) rfl rfl ?_
      refine bq_aload_n (q := 47) G rfl dX9_type_46 rfl ?_
      refine bq_geti (q := 50) G dX9_type_47 rfl fl_X9_53 (by first | assumption | exact ⟨Nat.le_of_ble_eq_true rfl, rfl⟩) rfl ?_
      refine hret _ _ _ _ _ dX9_type_50 ⟨?_, rfl⟩
      rw [if_pos c8, if_neg (by omega)]
      refine ⟨?_, ?_⟩
      · rw [bq_sr_s, bq_sr_n (by decide), pk_us, ht]; exact nI_1 t
      · rw [bq_sr_n (show (75 : Nat) ≠ 76 by decide), ht, nI_1 t]
    · have ht2 : t = 200 := by
        rw [ht] at c20
        exact (nI_eq (a := t) (b := 200) (by omega) (by decide)).mp c20
      refine bq_bipush (q := 25) (v := -3) G (by decide) dX9_type_23 rfl ?_
      refine hret _ _ _ _ _ dX9_type_25 ⟨?_, rfl⟩
      rw [if_pos c8, if_pos ht2]
      exact ⟨rfl, rfl⟩
  · refine bq_iconst (q := 12) (v := -1) G (by decide) dX9_type_11 rfl ?_
    refine hret _ _ _ _ _ dX9_type_12 ⟨?_, rfl⟩
    rw [if_neg c8]
    exact ⟨rfl, rfl⟩
set_option maxHeartbeats 1000000 in
set_option maxRecDepth 100000 in
theorem c_X9_clear {z : Nat} {I : bq_IR} {L : bq_LR}   : bq_FC MX9_clear z [.ref (z + 75)] 85 (bq_Rf z) I L 0 0 (some (.int (I 75 2))) 85 (bq_Rf z) (bq_sr I 75 (upd (I 75) 2 0)) (L) := by
  refine bq_ofI [some (.ref (z + 75)), none] rfl (Nat.le_of_ble_eq_true rfl) (by decide) rfl rfl ?_
  intro A G hret
  have G : bq_Cx cX9_clear RX9 2 z (bq_rm MX9_clear 0 0) "clear" A := G
  refine bq_aload_n (q := 1) G rfl dX9_clear_0 rfl ?_
  refine bq_geti (q := 4) G dX9_clear_1 rfl fl_X9_53 (by first | assumption | exact ⟨Nat.le_of_ble_eq_true rfl, rfl⟩) rfl ?_
  refine bq_istore_n (q := 5) (ls' := [_, _]) G dX9_clear_4 rfl (by decide) rfl rfl ?_
  refine bq_aload_n (q := 6) G rfl dX9_clear_5 rfl ?_
  refine bq_iconst (q := 7) (v := 0) G (by decide) dX9_clear_6 rfl ?_
  refine bq_puti (q := 10) G dX9_clear_7 rfl fl_X9_53 (by first | assumption | exact ⟨Nat.le_of_ble_eq_true rfl, rfl⟩) rfl rfl ?_
  refine bq_iload_n (q := 11) G rfl dX9_clear_10 rfl ?_
  exact hret _ _ dX9_clear_11
set_option maxHeartbeats 1000000 in
set_option maxRecDepth 100000 in
theorem c_X9_forget {z : Nat} {I : bq_IR} {L : bq_LR}   : bq_FC MX9_forget z [.ref (z + 75)] 85 (bq_Rf z) I L 0 0 (some (.int (I 75 11))) 85 (bq_Rf z) (bq_sr I 75 (upd (I 75) 11 0)) (L) := by
  refine bq_ofI [some (.ref (z + 75)), none] rfl (Nat.le_of_ble_eq_true rfl) (by decide) rfl rfl ?_
  intro A G hret
  have G : bq_Cx cX9_forget RX9 2 z (bq_rm MX9_forget 0 0) "forget" A := G
  refine bq_aload_n (q := 1) G rfl dX9_forget_0 rfl ?_
  refine bq_geti (q := 4) G dX9_forget_1 rfl fl_X9_98 (by first | assumption | exact ⟨Nat.le_of_ble_eq_true rfl, rfl⟩) rfl ?_
  refine bq_istore_n (q := 5) (ls' := [_, _]) G dX9_forget_4 rfl (by decide) rfl rfl ?_
  refine bq_aload_n (q := 6) G rfl dX9_forget_5 rfl ?_
  refine bq_iconst (q := 7) (v := 0) G (by decide) dX9_forget_6 rfl ?_
  refine bq_puti (q := 10) G dX9_forget_7 rfl fl_X9_98 (by first | assumption | exact ⟨Nat.le_of_ble_eq_true rfl, rfl⟩) rfl rfl ?_
  refine bq_iload_n (q := 11) G rfl dX9_forget_10 rfl ?_
  exact hret _ _ dX9_forget_11
set_option maxHeartbeats 1000000 in
set_option maxRecDepth 100000 in
theorem c_X9_trace {z : Nat} {I : bq_IR} {L : bq_LR}   : bq_FC MX9_trace z [.ref (z + 75)] 85 (bq_Rf z) I L 0 0 (some (.long (L 75 0))) 85 (bq_Rf z) (I) (L) := by
  refine bq_ofL [some (.ref (z + 75))] rfl (Nat.le_of_ble_eq_true rfl) (by decide) rfl ?_
  intro A G hret
  have G : bq_Cx cX9_trace RX9 1 z (bq_rm MX9_trace 0 0) "trace" A := G
  refine bq_aload_n (q := 1) G rfl dX9_trace_0 rfl ?_
  refine bq_getl (q := 4) G dX9_trace_1 rfl fl_X9_164 (by first | assumption | exact ⟨Nat.le_of_ble_eq_true rfl, rfl⟩) rfl ?_
  exact hret _ _ dX9_trace_4
def gs_broom (S : Nat → Int32) (b c : Int32) : Int32 := if (0 ≤ b ∧ b ≤ 7) ∧ 0 ≤ c ∧ c ≤ 6 then S (3 + 8 * c.toNatClampNeg + b.toNatClampNeg) else -1
set_option maxHeartbeats 1000000 in
set_option maxRecDepth 100000 in
theorem c_X9_broom {z : Nat} {I : bq_IR} {L : bq_LR} {b c : Int32}  : bq_FC MX9_broom z [.ref (z + 75), .int b, .int c] 85 (bq_Rf z) I L 0 0 (some (.int (gs_broom (I 79) b c))) 85 (bq_Rf z) (I) (L) := by
  refine bq_ofI [some (.ref (z + 75)), some (.int b), some (.int c)] rfl (Nat.le_of_ble_eq_true rfl) (by decide) rfl rfl ?_
  intro A G hret
  have G : bq_Cx cX9_broom RX9 3 z (bq_rm MX9_broom 0 0) "broom" A := G
  refine bq_iload_n (q := 1) G rfl dX9_broom_0 rfl ?_
  refine bq_calls (q := 4) G dX9_broom_1 rfl cl_X9_49 (c_X9_isNumber) rfl rfl ⟨Nat.le_of_ble_eq_true rfl, Nat.le_of_ble_eq_true rfl⟩ (Nat.le_of_ble_eq_true rfl) ⟨Nat.le_of_ble_eq_true rfl, Nat.le_of_ble_eq_true rfl⟩ rfl ?_
  first | refine bq_ifb_eq (t := 33) (q := 7) G dX9_broom_4 (by decide) rfl (fun c4 => ?_) (fun c4 => ?_) | refine bq_if_eq (t := 33) (q := 7) G dX9_broom_4 (by decide) rfl (fun c4 => ?_) (fun c4 => ?_)
  · refine bq_iconst (q := 34) (v := -1) G (by decide) dX9_broom_33 rfl ?_
    exact bq_ri (hret _ _ dX9_broom_34) (by unfold gs_broom; rw [if_neg (fun h => c4 h.1)]) rfl rfl
  · refine bq_iload_n (q := 8) G rfl dX9_broom_7 rfl ?_
    refine bq_iconst (q := 9) (v := 0) G (by decide) dX9_broom_8 rfl ?_
    refine bq_bipush (q := 11) (v := 6) G (by decide) dX9_broom_9 rfl ?_
    refine bq_calls (q := 14) G dX9_broom_11 rfl cl_X9_45 (c_X9_in) rfl rfl ⟨Nat.le_of_ble_eq_true rfl, Nat.le_of_ble_eq_true rfl⟩ (Nat.le_of_ble_eq_true rfl) ⟨Nat.le_of_ble_eq_true rfl, Nat.le_of_ble_eq_true rfl⟩ rfl ?_
    first | refine bq_ifb_eq (t := 33) (q := 17) G dX9_broom_14 (by decide) rfl (fun c14 => ?_) (fun c14 => ?_) | refine bq_if_eq (t := 33) (q := 17) G dX9_broom_14 (by decide) rfl (fun c14 => ?_) (fun c14 => ?_)
    · refine bq_iconst (q := 34) (v := -1) G (by decide) dX9_broom_33 rfl ?_
      exact bq_ri (hret _ _ dX9_broom_34) (by unfold gs_broom; rw [if_neg (fun h => c14 h.2)]) rfl rfl
    · obtain ⟨k, hk, rfl⟩ := gs_ik c4
      obtain ⟨w, hw, rfl⟩ := gs_rng (M := 6) (k := 6) (by decide) c14
      refine bq_aload_n (q := 18) G rfl dX9_broom_17 rfl ?_
      refine bq_getr (q := 21) G dX9_broom_18 rfl fl_X9_19 (by first | assumption | exact ⟨Nat.le_of_ble_eq_true rfl, rfl⟩) (fun _ _ _ => rfl) (rf_75_5 z) ?_
      refine bq_iconst (q := 22) (v := 3) G (by decide) dX9_broom_21 rfl ?_
      refine bq_bipush (q := 24) (v := 8) G (by decide) dX9_broom_22 rfl ?_
      refine bq_iload_n (q := 25) G rfl dX9_broom_24 rfl ?_
      refine bq_imul (q := 26) G dX9_broom_25 rfl ?_
      refine bq_iadd (q := 27) G dX9_broom_26 rfl ?_
      refine bq_iload_n (q := 28) G rfl dX9_broom_27 rfl ?_
      refine bq_iadd (q := 29) G dX9_broom_28 rfl ?_
      refine bq_iald (q := 30) (b := 3 + 8 * w + k) G dX9_broom_29 rfl (by first | assumption | exact ⟨Nat.le_of_ble_eq_true rfl, rfl⟩) (bq_ixa (bq_ixa (a := 3) rfl (bq_ixm (a := 8) rfl rfl)) rfl) (by first | with_reducible assumption | omega | decide) (by decide) ?_
      refine bq_goto (q := 34) G dX9_broom_30 (by decide) ?_
      exact bq_ri (hret _ _ dX9_broom_34) (by unfold gs_broom; rw [if_pos ⟨c4, c14⟩, nI_clamp (by omega), nI_clamp (by omega)]) rfl rfl
def gs_now (T S : Nat → Int32) (known w c : Int32) : Int32 := if 0 ≤ c ∧ c ≤ 5 then (if c < 2 then S c.toNatClampNeg else if c = 2 then S 1 / T 1 else if c = 3 then S 2 else if c = 4 then w else known) else -1
def gs_count (T : Nat → Int32) (meas typed c : Int32) : Int32 := if 0 ≤ c ∧ c ≤ 6 then (if c < 4 then T (1 + c.toNatClampNeg) else if c = 4 then T 5 else if c = 5 then meas else typed) else -1
set_option maxHeartbeats 1000000 in
set_option maxRecDepth 100000 in
theorem c_X9_now {z : Nat} {I : bq_IR} {L : bq_LR} {c : Int32} (hA : ¬ I 77 1 = 0) : bq_FC MX9_now z [.ref (z + 75), .int c] 85 (bq_Rf z) I L 0 0 (some (.int (gs_now (I 77) (I 79) (I 75 7) (gs_orb (I 79) 8) c))) 85 (bq_Rf z) (I) (L) := by
  refine bq_ofI [some (.ref (z + 75)), some (.int c)] rfl (Nat.le_of_ble_eq_true rfl) (by decide) rfl rfl ?_
  intro A G hret
  have G : bq_Cx cX9_now RX9 2 z (bq_rm MX9_now 0 0) "now" A := G
  refine bq_iload_n (q := 1) G rfl dX9_now_0 rfl ?_
  refine bq_iconst (q := 2) (v := 0) G (by decide) dX9_now_1 rfl ?_
  refine bq_iconst (q := 3) (v := 5) G (by decide) dX9_now_2 rfl ?_
  refine bq_calls (q := 6) G dX9_now_3 rfl cl_X9_45 (c_X9_in) rfl rfl ⟨Nat.le_of_ble_eq_true rfl, Nat.le_of_ble_eq_true rfl⟩ (Nat.le_of_ble_eq_true rfl) ⟨Nat.le_of_ble_eq_true rfl, Nat.le_of_ble_eq_true rfl⟩ rfl ?_
  first | refine bq_ifb_ne (t := 11) (q := 9) G dX9_now_6 (by decide) rfl (fun c6 => ?_) (fun c6 => ?_) | refine bq_if_ne (t := 11) (q := 9) G dX9_now_6 (by decide) rfl (fun c6 => ?_) (fun c6 => ?_)
  · obtain ⟨w, hw, rfl⟩ := gs_rng (M := 5) (k := 5) (by decide) c6
    have hcl : (nI w).toNatClampNeg = w := nI_clamp (by omega)
    refine bq_iload_n (q := 12) G rfl dX9_now_11 rfl ?_
    refine bq_iconst (q := 13) (v := 2) G (by decide) dX9_now_12 rfl ?_
    refine bq_icmp_ge (t := 25) (q := 16) G dX9_now_13 (by decide) rfl (fun c13 => ?_) (fun c13 => ?_)
    · refine bq_iload_n (q := 26) G rfl dX9_now_25 rfl ?_
      refine bq_iconst (q := 27) (v := 2) G (by decide) dX9_now_26 rfl ?_
      refine bq_icmp_ne (t := 37) (q := 30) G dX9_now_27 (by decide) rfl (fun c27 => ?_) (fun c27 => ?_)
      · refine bq_iload_n (q := 38) G rfl dX9_now_37 rfl ?_
        refine bq_iconst (q := 39) (v := 3) G (by decide) dX9_now_38 rfl ?_
        refine bq_icmp_ne (t := 51) (q := 42) G dX9_now_39 (by decide) rfl (fun c39 => ?_) (fun c39 => ?_)
        · refine bq_iload_n (q := 52) G rfl dX9_now_51 rfl ?_
          refine bq_iconst (q := 53) (v := 4) G (by decide) dX9_now_52 rfl ?_
          refine bq_icmp_ne (t := 63) (q := 56) G dX9_now_53 (by decide) rfl (fun c53 => ?_) (fun c53 => ?_)
          · refine bq_aload_n (q := 64) G rfl dX9_now_63 rfl ?_
            refine bq_geti (q := 67) G dX9_now_64 rfl fl_X9_95 (by first | assumption | exact ⟨Nat.le_of_ble_eq_true rfl, rfl⟩) rfl ?_
            exact bq_ri (hret _ _ dX9_now_67) (by unfold gs_now; rw [if_pos c6, if_neg (Int32.not_lt.mpr c13), if_neg c27, if_neg c39, if_neg c53]) rfl rfl
          · refine bq_aload_n (q := 57) G rfl dX9_now_56 rfl ?_
            refine bq_callv (q := 60) G dX9_now_57 rfl cl_X9_101 (c_X9_there) rfl (by first | assumption | exact ⟨Nat.le_of_ble_eq_true rfl, rfl⟩) rfl ⟨Nat.le_of_ble_eq_true rfl, Nat.le_of_ble_eq_true rfl⟩ (Nat.le_of_ble_eq_true rfl) ⟨Nat.le_of_ble_eq_true rfl, Nat.le_of_ble_eq_true rfl⟩ rfl ?_
            refine bq_goto (q := 67) G dX9_now_60 (by decide) ?_
            exact bq_ri (hret _ _ dX9_now_67) (by unfold gs_now; rw [if_pos c6, if_neg (Int32.not_lt.mpr c13), if_neg c27, if_neg c39, if_pos c53]) rfl rfl
        · refine bq_aload_n (q := 43) G rfl dX9_now_42 rfl ?_
          refine bq_getr (q := 46) G dX9_now_43 rfl fl_X9_19 (by first | assumption | exact ⟨Nat.le_of_ble_eq_true rfl, rfl⟩) (fun _ _ _ => rfl) (rf_75_5 z) ?_
          refine bq_iconst (q := 47) (v := 2) G (by decide) dX9_now_46 rfl ?_
          refine bq_iald (q := 48) (b := 2) G dX9_now_47 rfl (by first | assumption | exact ⟨Nat.le_of_ble_eq_true rfl, rfl⟩) rfl (by first | with_reducible assumption | omega | decide) (by decide) ?_
          refine bq_goto (q := 67) G dX9_now_48 (by decide) ?_
          exact bq_ri (hret _ _ dX9_now_67) (by unfold gs_now; rw [if_pos c6, if_neg (Int32.not_lt.mpr c13), if_neg c27, if_pos c39]) rfl rfl
      · refine bq_aload_n (q := 31) G rfl dX9_now_30 rfl ?_
        refine bq_callv (q := 34) G dX9_now_31 rfl cl_X9_88 (c_X9_high hA) rfl (by first | assumption | exact ⟨Nat.le_of_ble_eq_true rfl, rfl⟩) rfl ⟨Nat.le_of_ble_eq_true rfl, Nat.le_of_ble_eq_true rfl⟩ (Nat.le_of_ble_eq_true rfl) ⟨Nat.le_of_ble_eq_true rfl, Nat.le_of_ble_eq_true rfl⟩ rfl ?_
        refine bq_goto (q := 67) G dX9_now_34 (by decide) ?_
        exact bq_ri (hret _ _ dX9_now_67) (by unfold gs_now; rw [if_pos c6, if_neg (Int32.not_lt.mpr c13), if_pos c27]) rfl rfl
    · refine bq_aload_n (q := 17) G rfl dX9_now_16 rfl ?_
      refine bq_getr (q := 20) G dX9_now_17 rfl fl_X9_19 (by first | assumption | exact ⟨Nat.le_of_ble_eq_true rfl, rfl⟩) (fun _ _ _ => rfl) (rf_75_5 z) ?_
      refine bq_iload_n (q := 21) G rfl dX9_now_20 rfl ?_
      refine bq_iald (q := 22) (b := w) G dX9_now_21 rfl (by first | assumption | exact ⟨Nat.le_of_ble_eq_true rfl, rfl⟩) (by first | with_reducible assumption | with_reducible exact rfl | exact bq_ixa rfl (by with_reducible assumption) | exact rfl | exact bq_ixa rfl rfl | exact bq_ixa (by with_reducible assumption) rfl | exact bq_ixa rfl (bq_ixa (by first | rfl | with_reducible assumption) (by first | rfl | with_reducible assumption))) (by first | with_reducible assumption | omega | decide) (by decide) ?_
      refine bq_goto (q := 67) G dX9_now_22 (by decide) ?_
      exact bq_ri (hret _ _ dX9_now_67) (by unfold gs_now; rw [if_pos c6, if_pos (Int32.not_le.mp c13), hcl]) rfl rfl
  · refine bq_iconst (q := 10) (v := -1) G (by decide) dX9_now_9 rfl ?_
    exact bq_ri (hret _ _ dX9_now_10) (by unfold gs_now; rw [if_neg c6]) rfl rfl
set_option maxHeartbeats 1000000 in
set_option maxRecDepth 100000 in
theorem c_X9_count {z : Nat} {I : bq_IR} {L : bq_LR} {c : Int32}  : bq_FC MX9_count z [.ref (z + 75), .int c] 85 (bq_Rf z) I L 0 0 (some (.int (gs_count (I 77) (I 75 11) (I 75 2) c))) 85 (bq_Rf z) (I) (L) := by
  refine bq_ofI [some (.ref (z + 75)), some (.int c)] rfl (Nat.le_of_ble_eq_true rfl) (by decide) rfl rfl ?_
  intro A G hret
  have G : bq_Cx cX9_count RX9 2 z (bq_rm MX9_count 0 0) "count" A := G
  refine bq_iload_n (q := 1) G rfl dX9_count_0 rfl ?_
  refine bq_iconst (q := 2) (v := 0) G (by decide) dX9_count_1 rfl ?_
  refine bq_bipush (q := 4) (v := 6) G (by decide) dX9_count_2 rfl ?_
  refine bq_calls (q := 7) G dX9_count_4 rfl cl_X9_45 (c_X9_in) rfl rfl ⟨Nat.le_of_ble_eq_true rfl, Nat.le_of_ble_eq_true rfl⟩ (Nat.le_of_ble_eq_true rfl) ⟨Nat.le_of_ble_eq_true rfl, Nat.le_of_ble_eq_true rfl⟩ rfl ?_
  first | refine bq_ifb_ne (t := 12) (q := 10) G dX9_count_7 (by decide) rfl (fun c7 => ?_) (fun c7 => ?_) | refine bq_if_ne (t := 12) (q := 10) G dX9_count_7 (by decide) rfl (fun c7 => ?_) (fun c7 => ?_)
  · obtain ⟨w, hw, rfl⟩ := gs_rng (M := 6) (k := 6) (by decide) c7
    have hcl : (nI w).toNatClampNeg = w := nI_clamp (by omega)
    refine bq_iload_n (q := 13) G rfl dX9_count_12 rfl ?_
    refine bq_iconst (q := 14) (v := 4) G (by decide) dX9_count_13 rfl ?_
    refine bq_icmp_ge (t := 28) (q := 17) G dX9_count_14 (by decide) rfl (fun c14 => ?_) (fun c14 => ?_)
    · refine bq_iload_n (q := 29) G rfl dX9_count_28 rfl ?_
      refine bq_iconst (q := 30) (v := 4) G (by decide) dX9_count_29 rfl ?_
      refine bq_icmp_ne (t := 42) (q := 33) G dX9_count_30 (by decide) rfl (fun c30 => ?_) (fun c30 => ?_)
      · refine bq_iload_n (q := 43) G rfl dX9_count_42 rfl ?_
        refine bq_iconst (q := 44) (v := 5) G (by decide) dX9_count_43 rfl ?_
        refine bq_icmp_ne (t := 54) (q := 47) G dX9_count_44 (by decide) rfl (fun c44 => ?_) (fun c44 => ?_)
        · refine bq_aload_n (q := 55) G rfl dX9_count_54 rfl ?_
          refine bq_geti (q := 58) G dX9_count_55 rfl fl_X9_53 (by first | assumption | exact ⟨Nat.le_of_ble_eq_true rfl, rfl⟩) rfl ?_
          exact bq_ri (hret _ _ dX9_count_58) (by unfold gs_count; rw [if_pos c7, if_neg (Int32.not_lt.mpr c14), if_neg c30, if_neg c44]) rfl rfl
        · refine bq_aload_n (q := 48) G rfl dX9_count_47 rfl ?_
          refine bq_geti (q := 51) G dX9_count_48 rfl fl_X9_98 (by first | assumption | exact ⟨Nat.le_of_ble_eq_true rfl, rfl⟩) rfl ?_
          refine bq_goto (q := 58) G dX9_count_51 (by decide) ?_
          exact bq_ri (hret _ _ dX9_count_58) (by unfold gs_count; rw [if_pos c7, if_neg (Int32.not_lt.mpr c14), if_neg c30, if_pos c44]) rfl rfl
      · refine bq_aload_n (q := 34) G rfl dX9_count_33 rfl ?_
        refine bq_getr (q := 37) G dX9_count_34 rfl fl_X9_13 (by first | assumption | exact ⟨Nat.le_of_ble_eq_true rfl, rfl⟩) (fun _ _ _ => rfl) (rf_75_3 z) ?_
        refine bq_iconst (q := 38) (v := 5) G (by decide) dX9_count_37 rfl ?_
        refine bq_iald (q := 39) (b := 5) G dX9_count_38 rfl (by first | assumption | exact ⟨Nat.le_of_ble_eq_true rfl, rfl⟩) rfl (by first | with_reducible assumption | omega | decide) (by decide) ?_
        refine bq_goto (q := 58) G dX9_count_39 (by decide) ?_
        exact bq_ri (hret _ _ dX9_count_58) (by unfold gs_count; rw [if_pos c7, if_neg (Int32.not_lt.mpr c14), if_pos c30]) rfl rfl
    · refine bq_aload_n (q := 18) G rfl dX9_count_17 rfl ?_
      refine bq_getr (q := 21) G dX9_count_18 rfl fl_X9_13 (by first | assumption | exact ⟨Nat.le_of_ble_eq_true rfl, rfl⟩) (fun _ _ _ => rfl) (rf_75_3 z) ?_
      refine bq_iconst (q := 22) (v := 1) G (by decide) dX9_count_21 rfl ?_
      refine bq_iload_n (q := 23) G rfl dX9_count_22 rfl ?_
      refine bq_iadd (q := 24) G dX9_count_23 rfl ?_
      refine bq_iald (q := 25) (b := 1 + w) G dX9_count_24 rfl (by first | assumption | exact ⟨Nat.le_of_ble_eq_true rfl, rfl⟩) (bq_ixa (a := 1) rfl (by first | with_reducible assumption | with_reducible exact rfl | exact rfl)) (by first | with_reducible assumption | omega | decide) (by decide) ?_
      refine bq_goto (q := 58) G dX9_count_25 (by decide) ?_
      exact bq_ri (hret _ _ dX9_count_58) (by unfold gs_count; rw [if_pos c7, if_pos (Int32.not_le.mp c14), hcl]) rfl rfl
  · refine bq_iconst (q := 11) (v := -1) G (by decide) dX9_count_10 rfl ?_
    exact bq_ri (hret _ _ dX9_count_11) (by unfold gs_count; rw [if_neg c7]) rfl rfl
set_option maxHeartbeats 1000000 in
set_option maxRecDepth 100000 in
theorem c_X9_measured {z : Nat} {I : bq_IR} {L : bq_LR} {i v : Int32} {t : Nat} (ht : I 75 11 = nI t) (htl : t ≤ 4) : bq_FI MX9_measured z [.ref (z + 75), .int i, .int v] 85 (bq_Rf z) I L (fun r J L' => (if (0 ≤ i ∧ i ≤ 40) ∧ 0 ≤ v ∧ v ≤ 99999 then (if t = 4 then r = -3 ∧ J = I else r = nI (t + 1) ∧ J = bq_sr (bq_sr I 83 (upd (upd (I 83) (2 * t) i) (2 * t + 1) v)) 75 (upd (I 75) 11 (nI (t + 1)))) else r = -1 ∧ J = I) ∧ L' = L) := by
  refine bq_FIof [some (.ref (z + 75)), some (.int i), some (.int v)] rfl (Nat.le_of_ble_eq_true rfl) (by decide) rfl (fun _ _ _ _ => rfl) ?_
  intro A G hret
  have G : bq_Cx cX9_measured RX9 3 z (bq_rm MX9_measured 0 0) "measured" A := G
  refine bq_iload_n (q := 1) G rfl dX9_measured_0 rfl ?_
  refine bq_iconst (q := 2) (v := 0) G (by decide) dX9_measured_1 rfl ?_
  refine bq_bipush (q := 4) (v := 40) G (by decide) dX9_measured_2 rfl ?_
  refine bq_calls (q := 7) G dX9_measured_4 rfl cl_X9_45 (c_X9_in) rfl rfl ⟨Nat.le_of_ble_eq_true rfl, Nat.le_of_ble_eq_true rfl⟩ (Nat.le_of_ble_eq_true rfl) ⟨Nat.le_of_ble_eq_true rfl, Nat.le_of_ble_eq_true rfl⟩ rfl ?_
  first | refine bq_ifb_eq (t := 20) (q := 10) G dX9_measured_7 (by decide) rfl (fun c7 => ?_) (fun c7 => ?_) | refine bq_if_eq (t := 20) (q := 10) G dX9_measured_7 (by decide) rfl (fun c7 => ?_) (fun c7 => ?_)
  · refine bq_iconst (q := 21) (v := -1) G (by decide) dX9_measured_20 rfl ?_
    refine hret _ _ _ _ _ dX9_measured_21 ⟨?_, rfl⟩
    rw [if_neg (fun h : (0 ≤ i ∧ i ≤ 40) ∧ 0 ≤ v ∧ v ≤ 99999 => c7 h.1)]
    exact ⟨rfl, rfl⟩
  · refine bq_iload_n (q := 11) G rfl dX9_measured_10 rfl ?_
    refine bq_iconst (q := 12) (v := 0) G (by decide) dX9_measured_11 rfl ?_
    refine bq_ldc (q := 14) G wk_X9_110 dX9_measured_12 rfl ?_
    refine bq_calls (q := 17) G dX9_measured_14 rfl cl_X9_45 (c_X9_in) rfl rfl ⟨Nat.le_of_ble_eq_true rfl, Nat.le_of_ble_eq_true rfl⟩ (Nat.le_of_ble_eq_true rfl) ⟨Nat.le_of_ble_eq_true rfl, Nat.le_of_ble_eq_true rfl⟩ rfl ?_
    first | refine bq_ifb_ne (t := 22) (q := 20) G dX9_measured_17 (by decide) rfl (fun c17 => ?_) (fun c17 => ?_) | refine bq_if_ne (t := 22) (q := 20) G dX9_measured_17 (by decide) rfl (fun c17 => ?_) (fun c17 => ?_)
    · refine bq_aload_n (q := 23) G rfl dX9_measured_22 rfl ?_
      refine bq_geti (q := 26) G dX9_measured_23 rfl fl_X9_98 (by first | assumption | exact ⟨Nat.le_of_ble_eq_true rfl, rfl⟩) rfl ?_
      refine bq_iconst (q := 27) (v := 4) G (by decide) dX9_measured_26 rfl ?_
      refine bq_icmp_ne (t := 33) (q := 30) G dX9_measured_27 (by decide) rfl (fun c27 => ?_) (fun c27 => ?_)
      · have ht2 : t < 4 := by
          rcases Nat.lt_or_ge t 4 with h | h
          · exact h
          · exact absurd (by rw [ht, show t = 4 by omega]; rfl) c27
        refine bq_aload_n (q := 34) G rfl dX9_measured_33 rfl ?_
        refine bq_getr (q := 37) G dX9_measured_34 rfl fl_X9_32 (by first | assumption | exact ⟨Nat.le_of_ble_eq_true rfl, rfl⟩) (fun _ _ _ => rfl) (rf_75_10 z) ?_
        refine bq_iconst (q := 38) (v := 2) G (by decide) dX9_measured_37 rfl ?_
        refine bq_aload_n (q := 39) G rfl dX9_measured_38 rfl ?_
        refine bq_geti (q := 42) G dX9_measured_39 rfl fl_X9_98 (by first | assumption | exact ⟨Nat.le_of_ble_eq_true rfl, rfl⟩) rfl ?_
        refine bq_imul (q := 43) G dX9_measured_42 rfl ?_
        refine bq_iload_n (q := 44) G rfl dX9_measured_43 rfl ?_
        refine bq_iast (q := 45) (b := 2 * t) G dX9_measured_44 rfl (by first | assumption | exact ⟨Nat.le_of_ble_eq_true rfl, rfl⟩) (bq_ixm (a := 2) rfl ht) (by first | with_reducible assumption | omega | decide) (by decide) ?_
        refine bq_aload_n (q := 46) G rfl dX9_measured_45 rfl ?_
        refine bq_getr (q := 49) G dX9_measured_46 rfl fl_X9_32 (by first | assumption | exact ⟨Nat.le_of_ble_eq_true rfl, rfl⟩) (fun _ _ _ => rfl) (rf_75_10 z) ?_
        refine bq_iconst (q := 50) (v := 2) G (by decide) dX9_measured_49 rfl ?_
        refine bq_aload_n (q := 51) G rfl dX9_measured_50 rfl ?_
        refine bq_geti (q := 54) G dX9_measured_51 rfl fl_X9_98 (by first | assumption | exact ⟨Nat.le_of_ble_eq_true rfl, rfl⟩) rfl ?_
        refine bq_imul (q := 55) G dX9_measured_54 rfl ?_
        refine bq_iconst (q := 56) (v := 1) G (by decide) dX9_measured_55 rfl ?_
        refine bq_iadd (q := 57) G dX9_measured_56 rfl ?_
        refine bq_iload_n (q := 58) G rfl dX9_measured_57 rfl ?_
        refine bq_iast (q := 59) (b := 2 * t + 1) G dX9_measured_58 rfl (by first | assumption | exact ⟨Nat.le_of_ble_eq_true rfl, rfl⟩) (bq_ixa (bq_ixm (a := 2) rfl (by rw [bq_sr_n (by decide)]; exact ht)) rfl) (by first | with_reducible assumption | omega | decide) (by decide) ?_
        refine bq_aload_n (q := 60) G rfl dX9_measured_59 rfl ?_
        refine bq_dup (q := 61) G rfl dX9_measured_60 rfl ?_
        refine bq_geti (q := 64) G dX9_measured_61 rfl fl_X9_98 (by first | assumption | exact ⟨Nat.le_of_ble_eq_true rfl, rfl⟩) rfl ?_
        refine bq_iconst (q := 65) (v := 1) G (by decide) dX9_measured_64 rfl ?_
        refine bq_iadd (q := 66) G dX9_measured_65 rfl ?_
        refine bq_puti (q := 69) G dX9_measured_66 rfl fl_X9_98 (by first | assumption | exact ⟨Nat.le_of_ble_eq_true rfl, rfl⟩) rfl rfl ?_
        refine bq_aload_n (q := 70) G rfl dX9_measured_69 rfl ?_
        refine bq_geti (q := 73) G dX9_measured_70 rfl fl_X9_98 (by first | assumption | exact ⟨Nat.le_of_ble_eq_true rfl, rfl⟩) rfl ?_
        refine hret _ _ _ _ _ dX9_measured_73 ⟨?_, rfl⟩
        rw [if_pos ⟨c7, c17⟩, if_neg (by omega)]
        refine ⟨?_, ?_⟩
        · rw [bq_sr_s, pk_us, bq_sr_n (by decide), bq_sr_n (by decide), ht]; exact nI_1 t
        · rw [bq_sr_sr, bq_sr_s, bq_sr_n (show (75 : Nat) ≠ 83 by decide), ht, nI_1 t]
      · have ht2 : t = 4 := by
          rw [ht] at c27
          exact (nI_eq (a := t) (b := 4) (by omega) (by decide)).mp c27
        refine bq_bipush (q := 32) (v := -3) G (by decide) dX9_measured_30 rfl ?_
        refine hret _ _ _ _ _ dX9_measured_32 ⟨?_, rfl⟩
        rw [if_pos ⟨c7, c17⟩, if_pos ht2]
        exact ⟨rfl, rfl⟩
    · refine bq_iconst (q := 21) (v := -1) G (by decide) dX9_measured_20 rfl ?_
      refine hret _ _ _ _ _ dX9_measured_21 ⟨?_, rfl⟩
      rw [if_neg (fun h : (0 ≤ i ∧ i ≤ 40) ∧ 0 ≤ v ∧ v ≤ 99999 => c17 h.2)]
      exact ⟨rfl, rfl⟩
def gs_splitOn (S : Nat → Int32) (b k c : Int32) : Int32 := if ((0 ≤ b ∧ b ≤ 7) ∧ S (51 + b.toNatClampNeg) = 1) ∧ (0 ≤ k ∧ k ≤ 6) ∧ 0 ≤ c ∧ c ≤ 1 then (if c = 0 then (if S (3 + b.toNatClampNeg) >>> (k &&& 31) = 0 then (0 : Int32) else (1 : Int32) <<< (k &&& 31)) else (if S (3 + b.toNatClampNeg) >>> (k &&& 31) = 0 then (0 : Int32) else (1 : Int32) <<< (k &&& 31)) * (S (3 + b.toNatClampNeg) >>> (k &&& 31))) else -1
set_option maxHeartbeats 1000000 in
set_option maxRecDepth 100000 in
theorem c_X9_splitOn {z : Nat} {I : bq_IR} {L : bq_LR} {b k c : Int32}  : bq_FC MX9_splitOn z [.ref (z + 75), .int b, .int k, .int c] 85 (bq_Rf z) I L 0 0 (some (.int (gs_splitOn (I 79) b k c))) 85 (bq_Rf z) (I) (L) := by
  refine bq_ofI [some (.ref (z + 75)), some (.int b), some (.int k), some (.int c), none, none] rfl (Nat.le_of_ble_eq_true rfl) (by decide) rfl rfl ?_
  intro A G hret
  have G : bq_Cx cX9_splitOn RX9 6 z (bq_rm MX9_splitOn 0 0) "splitOn" A := G
  refine bq_aload_n (q := 1) G rfl dX9_splitOn_0 rfl ?_
  refine bq_iload_n (q := 2) G rfl dX9_splitOn_1 rfl ?_
  refine bq_callv (q := 5) G dX9_splitOn_2 rfl cl_X9_129 (c_X9_isThere) rfl (by first | assumption | exact ⟨Nat.le_of_ble_eq_true rfl, rfl⟩) rfl ⟨Nat.le_of_ble_eq_true rfl, Nat.le_of_ble_eq_true rfl⟩ (Nat.le_of_ble_eq_true rfl) ⟨Nat.le_of_ble_eq_true rfl, Nat.le_of_ble_eq_true rfl⟩ rfl ?_
  first | refine bq_ifb_eq (t := 27) (q := 8) G dX9_splitOn_5 (by decide) rfl (fun c5 => ?_) (fun c5 => ?_) | refine bq_if_eq (t := 27) (q := 8) G dX9_splitOn_5 (by decide) rfl (fun c5 => ?_) (fun c5 => ?_)
  · refine bq_iconst (q := 28) (v := -1) G (by decide) dX9_splitOn_27 rfl ?_
    exact bq_ri (hret _ _ dX9_splitOn_28) (by unfold gs_splitOn; rw [if_neg (fun h => c5 h.1)]) rfl rfl
  · refine bq_iload_n (q := 9) G rfl dX9_splitOn_8 rfl ?_
    refine bq_iconst (q := 10) (v := 0) G (by decide) dX9_splitOn_9 rfl ?_
    refine bq_bipush (q := 12) (v := 6) G (by decide) dX9_splitOn_10 rfl ?_
    refine bq_calls (q := 15) G dX9_splitOn_12 rfl cl_X9_45 (c_X9_in) rfl rfl ⟨Nat.le_of_ble_eq_true rfl, Nat.le_of_ble_eq_true rfl⟩ (Nat.le_of_ble_eq_true rfl) ⟨Nat.le_of_ble_eq_true rfl, Nat.le_of_ble_eq_true rfl⟩ rfl ?_
    first | refine bq_ifb_eq (t := 27) (q := 18) G dX9_splitOn_15 (by decide) rfl (fun c15 => ?_) (fun c15 => ?_) | refine bq_if_eq (t := 27) (q := 18) G dX9_splitOn_15 (by decide) rfl (fun c15 => ?_) (fun c15 => ?_)
    · refine bq_iconst (q := 28) (v := -1) G (by decide) dX9_splitOn_27 rfl ?_
      exact bq_ri (hret _ _ dX9_splitOn_28) (by unfold gs_splitOn; rw [if_neg (fun h => c15 h.2.1)]) rfl rfl
    · refine bq_iload_n (q := 19) G rfl dX9_splitOn_18 rfl ?_
      refine bq_iconst (q := 20) (v := 0) G (by decide) dX9_splitOn_19 rfl ?_
      refine bq_iconst (q := 21) (v := 1) G (by decide) dX9_splitOn_20 rfl ?_
      refine bq_calls (q := 24) G dX9_splitOn_21 rfl cl_X9_45 (c_X9_in) rfl rfl ⟨Nat.le_of_ble_eq_true rfl, Nat.le_of_ble_eq_true rfl⟩ (Nat.le_of_ble_eq_true rfl) ⟨Nat.le_of_ble_eq_true rfl, Nat.le_of_ble_eq_true rfl⟩ rfl ?_
      first | refine bq_ifb_ne (t := 29) (q := 27) G dX9_splitOn_24 (by decide) rfl (fun c24 => ?_) (fun c24 => ?_) | refine bq_if_ne (t := 29) (q := 27) G dX9_splitOn_24 (by decide) rfl (fun c24 => ?_) (fun c24 => ?_)
      · obtain ⟨q, hq, rfl, -⟩ := gs_th_ex (S := I 79) c5
        have hcl : (nI q).toNatClampNeg = q := nI_clamp (by omega)
        have e0 : gs_splitOn (I 79) (nI q) k c = (if c = 0 then (if I 79 (3 + q) >>> (k &&& 31) = 0 then (0 : Int32) else (1 : Int32) <<< (k &&& 31)) else (if I 79 (3 + q) >>> (k &&& 31) = 0 then (0 : Int32) else (1 : Int32) <<< (k &&& 31)) * (I 79 (3 + q) >>> (k &&& 31))) := by unfold gs_splitOn; rw [if_pos ⟨c5, c15, c24⟩, hcl]
        have st : ∀ y : Int32, y = (if I 79 (3 + q) >>> (k &&& 31) = 0 then (0 : Int32) else (1 : Int32) <<< (k &&& 31)) → A 0 0 53 [some (.ref (z + 75)), some (.int (nI q)), some (.int k), some (.int c), some (.int (I 79 (3 + q) >>> (k &&& 31))), none] [.int y] 85 (bq_Rf z) I L := by
          intro y hy
          refine bq_istore (q := 55) (ls' := [_, _, _, _, _, _]) G dX9_splitOn_53 rfl (by decide) rfl rfl ?_
          refine bq_iload_n (q := 56) G rfl dX9_splitOn_55 rfl ?_
          first | refine bq_ifb_ne (t := 64) (q := 59) G dX9_splitOn_56 (by decide) rfl (fun c56 => ?_) (fun c56 => ?_) | refine bq_if_ne (t := 64) (q := 59) G dX9_splitOn_56 (by decide) rfl (fun c56 => ?_) (fun c56 => ?_)
          · refine bq_iload (q := 66) G rfl dX9_splitOn_64 rfl ?_
            refine bq_iload (q := 68) G rfl dX9_splitOn_66 rfl ?_
            refine bq_imul (q := 69) G dX9_splitOn_68 rfl ?_
            exact bq_ri (hret _ _ dX9_splitOn_69) (by rw [e0, if_neg c56, hy]) rfl rfl
          · refine bq_iload (q := 61) G rfl dX9_splitOn_59 rfl ?_
            refine bq_goto (q := 69) G dX9_splitOn_61 (by decide) ?_
            exact bq_ri (hret _ _ dX9_splitOn_69) (by rw [e0, if_pos c56, hy]) rfl rfl
        refine bq_aload_n (q := 30) G rfl dX9_splitOn_29 rfl ?_
        refine bq_getr (q := 33) G dX9_splitOn_30 rfl fl_X9_19 (by first | assumption | exact ⟨Nat.le_of_ble_eq_true rfl, rfl⟩) (fun _ _ _ => rfl) (rf_75_5 z) ?_
        refine bq_iconst (q := 34) (v := 3) G (by decide) dX9_splitOn_33 rfl ?_
        refine bq_iload_n (q := 35) G rfl dX9_splitOn_34 rfl ?_
        refine bq_iadd (q := 36) G dX9_splitOn_35 rfl ?_
        refine bq_iald (q := 37) G dX9_splitOn_36 rfl (by first | assumption | exact ⟨Nat.le_of_ble_eq_true rfl, rfl⟩) (bq_ixa (a := 3) rfl (by first | with_reducible assumption | with_reducible exact rfl | exact rfl)) (by first | with_reducible assumption | omega | decide) (by decide) ?_
        refine bq_iload_n (q := 38) G rfl dX9_splitOn_37 rfl ?_
        refine bq_ishr (q := 39) G dX9_splitOn_38 rfl ?_
        refine bq_istore (q := 41) (ls' := [_, _, _, _, _, _]) G dX9_splitOn_39 rfl (by decide) rfl rfl ?_
        refine bq_iload (q := 43) G rfl dX9_splitOn_41 rfl ?_
        first | refine bq_ifb_ne (t := 50) (q := 46) G dX9_splitOn_43 (by decide) rfl (fun c43 => ?_) (fun c43 => ?_) | refine bq_if_ne (t := 50) (q := 46) G dX9_splitOn_43 (by decide) rfl (fun c43 => ?_) (fun c43 => ?_)
        · refine bq_iconst (q := 51) (v := 1) G (by decide) dX9_splitOn_50 rfl ?_
          refine bq_iload_n (q := 52) G rfl dX9_splitOn_51 rfl ?_
          refine bq_ishl (q := 53) G dX9_splitOn_52 rfl ?_
          exact st _ (by rw [if_neg c43])
        · refine bq_iconst (q := 47) (v := 0) G (by decide) dX9_splitOn_46 rfl ?_
          refine bq_goto (q := 53) G dX9_splitOn_47 (by decide) ?_
          exact st _ (by rw [if_pos c43])
      · refine bq_iconst (q := 28) (v := -1) G (by decide) dX9_splitOn_27 rfl ?_
        exact bq_ri (hret _ _ dX9_splitOn_28) (by unfold gs_splitOn; rw [if_neg (fun h => c24 h.2.2)]) rfl rfl
