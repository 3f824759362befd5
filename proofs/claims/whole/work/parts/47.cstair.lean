theorem ix_dec (v : Nat) : nI (v + 1) + Int32.ofInt (-1) = nI v := by rw [bq_m1, ← nI_1]; exact Int32.add_sub_cancel _ _
set_option maxHeartbeats 1000000 in
set_option maxRecDepth 100000 in
theorem c_X8_stair {z : Nat} {I : bq_IR} {L : bq_LR} {n : Int32} {T S : Nat → Int32} (hC : gs_CS I T S) : bq_FI MX8_stair z [.ref (z + 0), .int n] 85 (bq_Rf z) I L (fun r J L' => r = gs_stair T S n ∧ gs_cK I J ∧ L' = L) := by
  refine bq_FIof [some (.ref (z + 0)), some (.int n), none] rfl (Nat.le_of_ble_eq_true rfl) (by decide) rfl (fun _ _ _ _ => rfl) ?_
  intro A G hret
  have G : bq_Cx cX8_stair RX8 3 z (bq_rm MX8_stair 0 0) "stair" A := G
  refine bq_iload_n (q := 1) G rfl dX8_stair_0 rfl ?_
  refine bq_calls (q := 4) G dX8_stair_1 rfl cl_X8_197 (c_X8_isPlanned) rfl rfl ⟨Nat.le_of_ble_eq_true rfl, Nat.le_of_ble_eq_true rfl⟩ (Nat.le_of_ble_eq_true rfl) ⟨Nat.le_of_ble_eq_true rfl, Nat.le_of_ble_eq_true rfl⟩ rfl ?_
  first | refine bq_ifb_ne (t := 9) (q := 7) G dX8_stair_4 (by decide) rfl (fun c4 => ?_) (fun c4 => ?_) | refine bq_if_ne (t := 9) (q := 7) G dX8_stair_4 (by decide) rfl (fun c4 => ?_) (fun c4 => ?_)
  · obtain ⟨m, hm, rfl⟩ := gs_in60 c4
    have hcl : (nI m).toNatClampNeg = m := nI_clamp (by omega)
    have loop : ∀ v, v ≤ 8 → gs_stk T S m v = gs_stk T S m 8 → ∀ J, gs_cK I J → A 0 0 12 [some (.ref (z + 0)), some (.int (nI m)), some (.int (nI v))] [] 85 (bq_Rf z) J L := by
      intro v
      induction v with
      | zero =>
        intro _ he J hJ
        refine bq_iload_n (q := 13) G rfl dX8_stair_12 rfl ?_
        refine bq_iconst (q := 14) (v := 1) G (by decide) dX8_stair_13 rfl ?_
        refine bq_icmp_lt_t (t := 45) G dX8_stair_14 (by decide) (nI_lt (a := 0) (b := 1) (by omega) (by decide)) ?_
        refine bq_bipush (q := 47) (v := -9) G (by decide) dX8_stair_45 rfl ?_
        exact hret _ _ _ _ _ dX8_stair_47 ⟨by unfold gs_stair; rw [if_pos c4, hcl, ← he]; rfl, hJ, rfl⟩
      | succ v ih =>
        intro hv he J hJ
        rw [gs_stk_s] at he
        refine bq_iload_n (q := 13) G rfl dX8_stair_12 rfl ?_
        refine bq_iconst (q := 14) (v := 1) G (by decide) dX8_stair_13 rfl ?_
        refine bq_icmp_lt_f (q := 17) (t := 45) G dX8_stair_14 rfl (by decide) (nI_nlt (a := v + 1) (b := 1) (by omega) (by omega)) ?_
        refine bq_aload_n (q := 18) G rfl dX8_stair_17 rfl ?_
        refine bq_callvV (q := 21) G dX8_stair_18 rfl cl_X8_187 (c_X8_lookAhead (hC.keep hJ)) rfl (by first | assumption | exact ⟨Nat.le_of_ble_eq_true rfl, rfl⟩) rfl ⟨Nat.le_of_ble_eq_true rfl, Nat.le_of_ble_eq_true rfl⟩ (Nat.le_of_ble_eq_true rfl) ⟨Nat.le_of_ble_eq_true rfl, Nat.le_of_ble_eq_true rfl⟩ (fun I18 L18 h18 => ?_)
        obtain ⟨h0, rfl⟩ := h18
        have hJ1 : gs_cK I I18 := hJ.trans (h0 0 0 0).2
        have d2 : I18 (5 + 1) 2 = T 2 := (congrFun (hJ1 6 (by decide)) 2).trans hC.1.2.2.1
        refine bq_aload_n (q := 22) G rfl dX8_stair_21 rfl ?_
        refine bq_iload_n (q := 23) G rfl dX8_stair_22 rfl ?_
        refine bq_aload_n (q := 24) G rfl dX8_stair_23 rfl ?_
        refine bq_getr (q := 27) G dX8_stair_24 rfl fl_X8_26 (by first | assumption | exact ⟨Nat.le_of_ble_eq_true rfl, rfl⟩) (fun _ _ _ => rfl) (rf_0_2 z) ?_
        refine bq_callv (q := 30) G dX8_stair_27 rfl cl_X8_155 (c_X0_drainCups (bq_Ce5 z)) rfl (by first | assumption | exact ⟨Nat.le_of_ble_eq_true rfl, rfl⟩) rfl ⟨Nat.le_of_ble_eq_true rfl, Nat.le_of_ble_eq_true rfl⟩ (Nat.le_of_ble_eq_true rfl) ⟨Nat.le_of_ble_eq_true rfl, Nat.le_of_ble_eq_true rfl⟩ rfl ?_
        refine bq_iload_n (q := 31) G rfl dX8_stair_30 rfl ?_
        refine bq_callvI (q := 34) G dX8_stair_31 rfl cl_X8_200 (c_X8_staysAtMark (T := T) (S := S) ((congrFun (hJ1 6 (by decide)) 1).trans hC.1.2.1) ((congrFun (hJ1 6 (by decide)) 3).trans hC.1.2.2.2.1) hC.2.2.2.1 (h0 0 0 0).1 hC.2.2.1 (by rw [d2]; exact hC.2.2.2.2) (by omega)) rfl (by first | assumption | exact ⟨Nat.le_of_ble_eq_true rfl, rfl⟩) rfl ⟨Nat.le_of_ble_eq_true rfl, Nat.le_of_ble_eq_true rfl⟩ (Nat.le_of_ble_eq_true rfl) ⟨Nat.le_of_ble_eq_true rfl, Nat.le_of_ble_eq_true rfl⟩ (fun r31 I31 L31 h31 => ?_)
        obtain ⟨rfl, h2, rfl⟩ := h31
        rw [d2]
        first | refine bq_ifb_eq (t := 39) (q := 37) G dX8_stair_34 (by decide) rfl (fun c34 => ?_) (fun c34 => ?_) | refine bq_if_eq (t := 39) (q := 37) G dX8_stair_34 (by decide) rfl (fun c34 => ?_) (fun c34 => ?_)
        · rw [if_neg c34] at he
          refine bq_iinc (q := 42) (ls' := [_, _, _]) G dX8_stair_39 rfl rfl (ix_dec v) (by decide) rfl rfl ?_
          refine bq_goto (q := 12) G dX8_stair_42 (by decide) ?_
          exact ih (by omega) he _ (hJ1.trans h2)
        · rw [if_pos c34] at he
          refine bq_iload_n (q := 38) G rfl dX8_stair_37 rfl ?_
          exact hret _ _ _ _ _ dX8_stair_38 ⟨by unfold gs_stair; rw [if_pos c4, hcl, ← he], hJ1.trans h2, rfl⟩
    refine bq_bipush (q := 11) (v := 8) G (by decide) dX8_stair_9 rfl ?_
    refine bq_istore_n (q := 12) (ls' := [_, _, _]) G dX8_stair_11 rfl (by decide) rfl rfl ?_
    exact loop 8 (by omega) rfl I (gs_cK.refl I)
  · refine bq_iconst (q := 8) (v := -1) G (by decide) dX8_stair_7 rfl ?_
    exact hret _ _ _ _ _ dX8_stair_8 ⟨by unfold gs_stair; rw [if_neg c4], gs_cK.refl I, rfl⟩
set_option maxHeartbeats 1000000 in
set_option maxRecDepth 100000 in
theorem c_X8_drain {z : Nat} {I : bq_IR} {L : bq_LR} {n : Int32} {T S : Nat → Int32} (hC : gs_CS I T S) : bq_FI MX8_drain z [.ref (z + 0), .int n] 85 (bq_Rf z) I L (fun r J L' => r = gs_drain T S n ∧ gs_cK I J ∧ L' = L) := by
  refine bq_FIof [some (.ref (z + 0)), some (.int n), none] rfl (Nat.le_of_ble_eq_true rfl) (by decide) rfl (fun _ _ _ _ => rfl) ?_
  intro A G hret
  have G : bq_Cx cX8_drain RX8 3 z (bq_rm MX8_drain 0 0) "drain" A := G
  refine bq_iload_n (q := 1) G rfl dX8_drain_0 rfl ?_
  refine bq_calls (q := 4) G dX8_drain_1 rfl cl_X8_197 (c_X8_isPlanned) rfl rfl ⟨Nat.le_of_ble_eq_true rfl, Nat.le_of_ble_eq_true rfl⟩ (Nat.le_of_ble_eq_true rfl) ⟨Nat.le_of_ble_eq_true rfl, Nat.le_of_ble_eq_true rfl⟩ rfl ?_
  first | refine bq_ifb_ne (t := 9) (q := 7) G dX8_drain_4 (by decide) rfl (fun c4 => ?_) (fun c4 => ?_) | refine bq_if_ne (t := 9) (q := 7) G dX8_drain_4 (by decide) rfl (fun c4 => ?_) (fun c4 => ?_)
  · obtain ⟨m, hm, rfl⟩ := gs_in60 c4
    have hcl : (nI m).toNatClampNeg = m := nI_clamp (by omega)
    have loop : ∀ v, v ≤ 21 → gs_drk T S m (21 - v) v = gs_drk T S m 21 0 → ∀ J, gs_cK I J → A 0 0 11 [some (.ref (z + 0)), some (.int (nI m)), some (.int (nI v))] [] 85 (bq_Rf z) J L := by
      refine bq_down 21 ?_
      intro v hv ih he J hJ
      rcases Nat.lt_or_ge v 21 with hk8 | hk8
      · rw [show 21 - v = (21 - (v + 1)) + 1 by omega, gs_drk_s] at he
        refine bq_iload_n (q := 12) G rfl dX8_drain_11 rfl ?_
        refine bq_bipush (q := 14) (v := 20) G (by decide) dX8_drain_12 rfl ?_
        refine bq_icmp_gt_f (q := 17) (t := 45) G dX8_drain_14 rfl (by decide) (nI_nlt (a := 20) (b := v) (by omega) (by decide)) ?_
        refine bq_aload_n (q := 18) G rfl dX8_drain_17 rfl ?_
        refine bq_callvV (q := 21) G dX8_drain_18 rfl cl_X8_187 (c_X8_lookAhead (hC.keep hJ)) rfl (by first | assumption | exact ⟨Nat.le_of_ble_eq_true rfl, rfl⟩) rfl ⟨Nat.le_of_ble_eq_true rfl, Nat.le_of_ble_eq_true rfl⟩ (Nat.le_of_ble_eq_true rfl) ⟨Nat.le_of_ble_eq_true rfl, Nat.le_of_ble_eq_true rfl⟩ (fun I18 L18 h18 => ?_)
        obtain ⟨h0, rfl⟩ := h18
        have hJ1 : gs_cK I I18 := hJ.trans (h0 0 0 0).2
        have d4 : I18 (5 + 1) 4 = T 4 := (congrFun (hJ1 6 (by decide)) 4).trans hC.1.2.2.2.2
        refine bq_aload_n (q := 22) G rfl dX8_drain_21 rfl ?_
        refine bq_aload_n (q := 23) G rfl dX8_drain_22 rfl ?_
        refine bq_getr (q := 26) G dX8_drain_23 rfl fl_X8_26 (by first | assumption | exact ⟨Nat.le_of_ble_eq_true rfl, rfl⟩) (fun _ _ _ => rfl) (rf_0_2 z) ?_
        refine bq_callv (q := 29) G dX8_drain_26 rfl cl_X8_151 (c_X0_stairWidth (bq_Ce5 z)) rfl (by first | assumption | exact ⟨Nat.le_of_ble_eq_true rfl, rfl⟩) rfl ⟨Nat.le_of_ble_eq_true rfl, Nat.le_of_ble_eq_true rfl⟩ (Nat.le_of_ble_eq_true rfl) ⟨Nat.le_of_ble_eq_true rfl, Nat.le_of_ble_eq_true rfl⟩ rfl ?_
        refine bq_iload_n (q := 30) G rfl dX8_drain_29 rfl ?_
        refine bq_iload_n (q := 31) G rfl dX8_drain_30 rfl ?_
        refine bq_callvI (q := 34) G dX8_drain_31 rfl cl_X8_200 (c_X8_staysAtMark (T := T) (S := S) ((congrFun (hJ1 6 (by decide)) 1).trans hC.1.2.1) ((congrFun (hJ1 6 (by decide)) 3).trans hC.1.2.2.2.1) hC.2.2.2.1 (h0 0 0 0).1 hC.2.2.1 (nI_pos' (by omega)) (by omega)) rfl (by first | assumption | exact ⟨Nat.le_of_ble_eq_true rfl, rfl⟩) rfl ⟨Nat.le_of_ble_eq_true rfl, Nat.le_of_ble_eq_true rfl⟩ (Nat.le_of_ble_eq_true rfl) ⟨Nat.le_of_ble_eq_true rfl, Nat.le_of_ble_eq_true rfl⟩ (fun r31 I31 L31 h31 => ?_)
        obtain ⟨rfl, h2, rfl⟩ := h31
        rw [d4]
        first | refine bq_ifb_eq (t := 39) (q := 37) G dX8_drain_34 (by decide) rfl (fun c34 => ?_) (fun c34 => ?_) | refine bq_if_eq (t := 39) (q := 37) G dX8_drain_34 (by decide) rfl (fun c34 => ?_) (fun c34 => ?_)
        · rw [if_neg c34] at he
          refine bq_iinc (q := 42) (ls' := [_, _, _]) G dX8_drain_39 rfl rfl (by first | exact nI_1 _ | exact pk_m1 _ | rfl) (by decide) rfl rfl ?_
          refine bq_goto (q := 11) G dX8_drain_42 (by decide) ?_
          exact ih hk8 he _ (hJ1.trans h2)
        · rw [if_pos c34] at he
          refine bq_iload_n (q := 38) G rfl dX8_drain_37 rfl ?_
          exact hret _ _ _ _ _ dX8_drain_38 ⟨by unfold gs_drain; rw [if_pos c4, hcl, ← he], hJ1.trans h2, rfl⟩
      · have hk9 : v = 21 := by omega
        subst hk9
        refine bq_iload_n (q := 12) G rfl dX8_drain_11 rfl ?_
        refine bq_bipush (q := 14) (v := 20) G (by decide) dX8_drain_12 rfl ?_
        refine bq_icmp_gt_t (t := 45) G dX8_drain_14 (by decide) (nI_lt (a := 20) (b := 21) (by omega) (by omega)) ?_
        refine bq_bipush (q := 47) (v := -9) G (by decide) dX8_drain_45 rfl ?_
        exact hret _ _ _ _ _ dX8_drain_47 ⟨by unfold gs_drain; rw [if_pos c4, hcl, ← he]; rfl, hJ, rfl⟩
    refine bq_iconst (q := 10) (v := 0) G (by decide) dX8_drain_9 rfl ?_
    refine bq_istore_n (q := 11) (ls' := [_, _, _]) G dX8_drain_10 rfl (by decide) rfl rfl ?_
    exact loop 0 (by omega) rfl I (gs_cK.refl I)
  · refine bq_iconst (q := 8) (v := -1) G (by decide) dX8_drain_7 rfl ?_
    exact hret _ _ _ _ _ dX8_drain_8 ⟨by unfold gs_drain; rw [if_neg c4], gs_cK.refl I, rfl⟩
/-! sets of brooms -/
theorem ix_or {a c t : Int32} (h : a &&& t = a) (h2 : c &&& t = c) : (a ||| c) &&& t = a ||| c := by
  have e1 := congrArg Int32.toBitVec h
  have e2 := congrArg Int32.toBitVec h2
  apply Int32.toBitVec_inj.mp
  simp only [Int32.toBitVec_and, Int32.toBitVec_or] at e1 e2 ⊢
  ext i hi
  have f1 := congrArg (fun v => v.getLsbD i) e1
  have f2 := congrArg (fun v => v.getLsbD i) e2
  simp only [BitVec.getLsbD_and, BitVec.getLsbD_or, ← BitVec.getLsbD_eq_getElem] at f1 f2 ⊢
  revert f1 f2
  cases a.toBitVec.getLsbD i <;> cases c.toBitVec.getLsbD i <;> cases t.toBitVec.getLsbD i <;> simp
theorem ix_sub {a t : Int32} (h : a &&& t = a) : t &&& (a ^^^ -1) = 0 ↔ a = t := by
  constructor
  · intro h2
    have e1 := congrArg Int32.toBitVec h
    have e2 := congrArg Int32.toBitVec h2
    apply Int32.toBitVec_inj.mp
    simp only [Int32.toBitVec_and, Int32.toBitVec_xor] at e1 e2
    ext i hi
    have f1 := congrArg (fun v => v.getLsbD i) e1
    have f2 := congrArg (fun v => v.getLsbD i) e2
    have f3 : (Int32.toBitVec (-1)).getLsbD i = true := by
      have : (Int32.toBitVec (-1)) = BitVec.allOnes 32 := by decide
      rw [this, BitVec.getLsbD_allOnes]; exact decide_eq_true hi
    have f4 : (Int32.toBitVec 0).getLsbD i = false := by
      have : (Int32.toBitVec 0) = 0#32 := by decide
      rw [this]; simp
    simp only [BitVec.getLsbD_and, BitVec.getLsbD_xor, f3, f4, ← BitVec.getLsbD_eq_getElem] at f1 f2 ⊢
    revert f1 f2
    cases a.toBitVec.getLsbD i <;> cases t.toBitVec.getLsbD i <;> simp
  · rintro rfl
    apply Int32.toBitVec_inj.mp
    simp only [Int32.toBitVec_and, Int32.toBitVec_xor]
    have : (Int32.toBitVec (-1)) = BitVec.allOnes 32 := by decide
    rw [this]
    ext i hi
    rw [← BitVec.getLsbD_eq_getElem, ← BitVec.getLsbD_eq_getElem, BitVec.getLsbD_and, BitVec.getLsbD_xor, BitVec.getLsbD_allOnes, decide_eq_true hi]
    have f4 : (Int32.toBitVec 0).getLsbD i = false := by
      have : (Int32.toBitVec 0) = 0#32 := by decide
      rw [this]; simp
    rw [f4]
    cases a.toBitVec.getLsbD i <;> rfl
