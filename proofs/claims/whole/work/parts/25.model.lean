def bq_mr (z a : Nat) : Nat → Option Nat := fun j => if j = 3 then some (z + (a + 1)) else if j = 4 then some (z + (a + 2)) else if j = 5 then some (z + (a + 3)) else none
def bq_Rf (z : Nat) : bq_RR := fun a => match a with
  | 0 => fun j => match j with | 0 => some (z + 1) | 1 => some (z + 3) | 2 => some (z + 5) | 3 => some (z + 11) | 4 => some (z + 17) | 5 => some (z + 21) | 6 => some (z + 25) | 7 => some (z + 59) | 8 => some (z + 68) | 9 => some (z + 69) | 10 => some (z + 72) | 11 => some (z + 73) | 12 => some (z + 74) | _ => none
  | 1 => fun j => match j with | 0 => some (z + 2) | _ => none
  | 3 => fun j => match j with | 0 => some (z + 4) | _ => none
  | 5 => fun j => match j with | 0 => some (z + 6) | 1 => some (z + 7) | _ => none
  | 7 => bq_mr z 7
  | 11 => fun j => match j with | 0 => some (z + 12) | 1 => some (z + 13) | _ => none
  | 13 => bq_mr z 13
  | 17 => bq_mr z 17
  | 21 => bq_mr z 21
  | 25 => fun j => match j with | 0 => some (z + 26) | _ => none
  | 26 => fun j => if j < 8 then some (z + (27 + 4 * j)) else none
  | 27 => bq_mr z 27
  | 31 => bq_mr z 31
  | 35 => bq_mr z 35
  | 39 => bq_mr z 39
  | 43 => bq_mr z 43
  | 47 => bq_mr z 47
  | 51 => bq_mr z 51
  | 55 => bq_mr z 55
  | 59 => fun j => if j < 2 then some (z + (60 + 4 * j)) else none
  | 60 => bq_mr z 60
  | 64 => bq_mr z 64
  | 69 => fun j => match j with | 0 => some (z + 70) | 1 => some (z + 71) | _ => none
  | 75 => fun j => match j with | 1 => some (z + 76) | 3 => some (z + 77) | 4 => some (z + 78) | 5 => some (z + 79) | 6 => some (z + 80) | 8 => some (z + 81) | 9 => some (z + 82) | 10 => some (z + 83) | 19 => some (z + 84) | _ => none
  | _ => fun _ => none
theorem rf_0_0 (z : Nat) : bq_Rf z 0 0 = some (z + 1) := rfl
theorem rf_0_1 (z : Nat) : bq_Rf z 0 1 = some (z + 3) := rfl
theorem rf_0_2 (z : Nat) : bq_Rf z 0 2 = some (z + 5) := rfl
theorem rf_0_3 (z : Nat) : bq_Rf z 0 3 = some (z + 11) := rfl
theorem rf_0_4 (z : Nat) : bq_Rf z 0 4 = some (z + 17) := rfl
theorem rf_0_5 (z : Nat) : bq_Rf z 0 5 = some (z + 21) := rfl
theorem rf_0_6 (z : Nat) : bq_Rf z 0 6 = some (z + 25) := rfl
theorem rf_0_7 (z : Nat) : bq_Rf z 0 7 = some (z + 59) := rfl
theorem rf_0_8 (z : Nat) : bq_Rf z 0 8 = some (z + 68) := rfl
theorem rf_0_9 (z : Nat) : bq_Rf z 0 9 = some (z + 69) := rfl
theorem rf_0_10 (z : Nat) : bq_Rf z 0 10 = some (z + 72) := rfl
theorem rf_0_11 (z : Nat) : bq_Rf z 0 11 = some (z + 73) := rfl
theorem rf_0_12 (z : Nat) : bq_Rf z 0 12 = some (z + 74) := rfl
theorem rf_1_0 (z : Nat) : bq_Rf z 1 0 = some (z + 2) := rfl
theorem rf_3_0 (z : Nat) : bq_Rf z 3 0 = some (z + 4) := rfl
theorem rf_5_0 (z : Nat) : bq_Rf z 5 0 = some (z + 6) := rfl
theorem rf_5_1 (z : Nat) : bq_Rf z 5 1 = some (z + 7) := rfl
theorem rf_11_0 (z : Nat) : bq_Rf z 11 0 = some (z + 12) := rfl
theorem rf_11_1 (z : Nat) : bq_Rf z 11 1 = some (z + 13) := rfl
theorem rf_25_0 (z : Nat) : bq_Rf z 25 0 = some (z + 26) := rfl
theorem rf_69_0 (z : Nat) : bq_Rf z 69 0 = some (z + 70) := rfl
theorem rf_69_1 (z : Nat) : bq_Rf z 69 1 = some (z + 71) := rfl
theorem rf_75_1 (z : Nat) : bq_Rf z 75 1 = some (z + 76) := rfl
theorem rf_75_3 (z : Nat) : bq_Rf z 75 3 = some (z + 77) := rfl
theorem rf_75_4 (z : Nat) : bq_Rf z 75 4 = some (z + 78) := rfl
theorem rf_75_5 (z : Nat) : bq_Rf z 75 5 = some (z + 79) := rfl
theorem rf_75_6 (z : Nat) : bq_Rf z 75 6 = some (z + 80) := rfl
theorem rf_75_8 (z : Nat) : bq_Rf z 75 8 = some (z + 81) := rfl
theorem rf_75_9 (z : Nat) : bq_Rf z 75 9 = some (z + 82) := rfl
theorem rf_75_10 (z : Nat) : bq_Rf z 75 10 = some (z + 83) := rfl
theorem rf_75_19 (z : Nat) : bq_Rf z 75 19 = some (z + 84) := rfl
theorem bq_Mo7 (z : Nat) : bq_Mo z 85 (bq_Rf z) 7 := ⟨⟨by decide, rfl⟩, ⟨by decide, rfl⟩, ⟨by decide, rfl⟩, ⟨by decide, rfl⟩, rfl, rfl, rfl⟩
theorem bq_Mo13 (z : Nat) : bq_Mo z 85 (bq_Rf z) 13 := ⟨⟨by decide, rfl⟩, ⟨by decide, rfl⟩, ⟨by decide, rfl⟩, ⟨by decide, rfl⟩, rfl, rfl, rfl⟩
theorem bq_Mo17 (z : Nat) : bq_Mo z 85 (bq_Rf z) 17 := ⟨⟨by decide, rfl⟩, ⟨by decide, rfl⟩, ⟨by decide, rfl⟩, ⟨by decide, rfl⟩, rfl, rfl, rfl⟩
theorem bq_Mo21 (z : Nat) : bq_Mo z 85 (bq_Rf z) 21 := ⟨⟨by decide, rfl⟩, ⟨by decide, rfl⟩, ⟨by decide, rfl⟩, ⟨by decide, rfl⟩, rfl, rfl, rfl⟩
theorem bq_Mo27 (z : Nat) : bq_Mo z 85 (bq_Rf z) 27 := ⟨⟨by decide, rfl⟩, ⟨by decide, rfl⟩, ⟨by decide, rfl⟩, ⟨by decide, rfl⟩, rfl, rfl, rfl⟩
theorem bq_Mo31 (z : Nat) : bq_Mo z 85 (bq_Rf z) 31 := ⟨⟨by decide, rfl⟩, ⟨by decide, rfl⟩, ⟨by decide, rfl⟩, ⟨by decide, rfl⟩, rfl, rfl, rfl⟩
theorem bq_Mo35 (z : Nat) : bq_Mo z 85 (bq_Rf z) 35 := ⟨⟨by decide, rfl⟩, ⟨by decide, rfl⟩, ⟨by decide, rfl⟩, ⟨by decide, rfl⟩, rfl, rfl, rfl⟩
theorem bq_Mo39 (z : Nat) : bq_Mo z 85 (bq_Rf z) 39 := ⟨⟨by decide, rfl⟩, ⟨by decide, rfl⟩, ⟨by decide, rfl⟩, ⟨by decide, rfl⟩, rfl, rfl, rfl⟩
theorem bq_Mo43 (z : Nat) : bq_Mo z 85 (bq_Rf z) 43 := ⟨⟨by decide, rfl⟩, ⟨by decide, rfl⟩, ⟨by decide, rfl⟩, ⟨by decide, rfl⟩, rfl, rfl, rfl⟩
theorem bq_Mo47 (z : Nat) : bq_Mo z 85 (bq_Rf z) 47 := ⟨⟨by decide, rfl⟩, ⟨by decide, rfl⟩, ⟨by decide, rfl⟩, ⟨by decide, rfl⟩, rfl, rfl, rfl⟩
theorem bq_Mo51 (z : Nat) : bq_Mo z 85 (bq_Rf z) 51 := ⟨⟨by decide, rfl⟩, ⟨by decide, rfl⟩, ⟨by decide, rfl⟩, ⟨by decide, rfl⟩, rfl, rfl, rfl⟩
theorem bq_Mo55 (z : Nat) : bq_Mo z 85 (bq_Rf z) 55 := ⟨⟨by decide, rfl⟩, ⟨by decide, rfl⟩, ⟨by decide, rfl⟩, ⟨by decide, rfl⟩, rfl, rfl, rfl⟩
theorem bq_Mo60 (z : Nat) : bq_Mo z 85 (bq_Rf z) 60 := ⟨⟨by decide, rfl⟩, ⟨by decide, rfl⟩, ⟨by decide, rfl⟩, ⟨by decide, rfl⟩, rfl, rfl, rfl⟩
theorem bq_Mo64 (z : Nat) : bq_Mo z 85 (bq_Rf z) 64 := ⟨⟨by decide, rfl⟩, ⟨by decide, rfl⟩, ⟨by decide, rfl⟩, ⟨by decide, rfl⟩, rfl, rfl, rfl⟩
theorem bq_le_0 (l : bq_LS) : bq_le [] l := trivial
theorem bq_le_n {l' l : bq_LS} {a : Option Value} (h : bq_le l' l) : bq_le (none :: l') (a :: l) := h
theorem bq_le_s {l' l : bq_LS} {a : Option Value} {v : Value} (e : a = some v) (h : bq_le l' l) : bq_le (some v :: l') (a :: l) := ⟨e, h⟩
theorem bq_ixl (n : Nat) : (OfNat.ofNat n : Int32) = nI n := rfl
set_option maxHeartbeats 1000000 in
set_option maxRecDepth 100000 in
theorem c_X9_high {z : Nat} {I : bq_IR} {L : bq_LR}  (hA : ¬ I 77 1 = 0) : bq_FC MX9_high z [.ref (z + 75)] 85 (bq_Rf z) I L 0 0 (some (.int (I 79 1 / I 77 1))) 85 (bq_Rf z) (I) (L) := by
  refine bq_ofI [some (.ref (z + 75))] rfl (Nat.le_of_ble_eq_true rfl) (by decide) rfl rfl ?_
  intro A G hret
  have G : bq_Cx cX9_high RX9 1 z (bq_rm MX9_high 0 0) "high" A := G
  refine bq_aload_n (q := 1) G rfl dX9_high_0 rfl ?_
  refine bq_getr (q := 4) G dX9_high_1 rfl fl_X9_19 (by first | assumption | exact ⟨Nat.le_of_ble_eq_true rfl, rfl⟩) (fun _ _ _ => rfl) (rf_75_5 z) ?_
  refine bq_iconst (q := 5) (v := 1) G (by decide) dX9_high_4 rfl ?_
  refine bq_iald (q := 6) (b := 1) G dX9_high_5 rfl (by first | assumption | exact ⟨Nat.le_of_ble_eq_true rfl, rfl⟩) rfl (by first | with_reducible assumption | omega | decide) (by decide) ?_
  refine bq_aload_n (q := 7) G rfl dX9_high_6 rfl ?_
  refine bq_getr (q := 10) G dX9_high_7 rfl fl_X9_13 (by first | assumption | exact ⟨Nat.le_of_ble_eq_true rfl, rfl⟩) (fun _ _ _ => rfl) (rf_75_3 z) ?_
  refine bq_iconst (q := 11) (v := 1) G (by decide) dX9_high_10 rfl ?_
  refine bq_iald (q := 12) (b := 1) G dX9_high_11 rfl (by first | assumption | exact ⟨Nat.le_of_ble_eq_true rfl, rfl⟩) rfl (by first | with_reducible assumption | omega | decide) (by decide) ?_
  refine bq_idiv (q := 13) G hA dX9_high_12 rfl ?_
  exact hret _ _ dX9_high_13
set_option maxHeartbeats 1000000 in
set_option maxRecDepth 100000 in
theorem c_X9_carries {z : Nat} {I : bq_IR} {L : bq_LR} {k : Nat} (hk : k < 8) : bq_FC MX9_carries z [.ref (z + 75), .int (nI k)] 85 (bq_Rf z) I L 0 0 (some (.int (gs_ld (I 79) k))) 85 (bq_Rf z) (I) (L) := by
  refine bq_ofI [some (.ref (z + 75)), some (.int (nI k))] rfl (Nat.le_of_ble_eq_true rfl) (by decide) rfl rfl ?_
  intro A G hret
  have G : bq_Cx cX9_carries RX9 2 z (bq_rm MX9_carries 0 0) "carries" A := G
  refine bq_aload_n (q := 1) G rfl dX9_carries_0 rfl ?_
  refine bq_getr (q := 4) G dX9_carries_1 rfl fl_X9_19 (by first | assumption | exact ⟨Nat.le_of_ble_eq_true rfl, rfl⟩) (fun _ _ _ => rfl) (rf_75_5 z) ?_
  refine bq_bipush (q := 6) (v := 35) G (by decide) dX9_carries_4 rfl ?_
  refine bq_iload_n (q := 7) G rfl dX9_carries_6 rfl ?_
  refine bq_iadd (q := 8) G dX9_carries_7 rfl ?_
  refine bq_iald (q := 9) G dX9_carries_8 rfl (by first | assumption | exact ⟨Nat.le_of_ble_eq_true rfl, rfl⟩) (bq_ixa (a := 35) rfl (by first | with_reducible assumption | with_reducible exact rfl | exact rfl)) (by first | with_reducible assumption | omega | decide) (by decide) ?_
  refine bq_iconst (q := 10) (v := 1) G (by decide) dX9_carries_9 rfl ?_
  refine bq_icmp_ne (t := 26) (q := 13) G dX9_carries_10 (by decide) rfl (fun c10 => ?_) (fun c10 => ?_)
  · refine bq_aload_n (q := 27) G rfl dX9_carries_26 rfl ?_
    refine bq_getr (q := 30) G dX9_carries_27 rfl fl_X9_19 (by first | assumption | exact ⟨Nat.le_of_ble_eq_true rfl, rfl⟩) (fun _ _ _ => rfl) (rf_75_5 z) ?_
    refine bq_iconst (q := 31) (v := 3) G (by decide) dX9_carries_30 rfl ?_
    refine bq_iload_n (q := 32) G rfl dX9_carries_31 rfl ?_
    refine bq_iadd (q := 33) G dX9_carries_32 rfl ?_
    refine bq_iald (q := 34) G dX9_carries_33 rfl (by first | assumption | exact ⟨Nat.le_of_ble_eq_true rfl, rfl⟩) (bq_ixa (a := 3) rfl (by first | with_reducible assumption | with_reducible exact rfl | exact rfl)) (by first | with_reducible assumption | omega | decide) (by decide) ?_
    exact bq_ri (hret _ _ dX9_carries_34) (by unfold gs_ld; rw [if_neg c10]) rfl rfl
  · refine bq_aload_n (q := 14) G rfl dX9_carries_13 rfl ?_
    refine bq_getr (q := 17) G dX9_carries_14 rfl fl_X9_19 (by first | assumption | exact ⟨Nat.le_of_ble_eq_true rfl, rfl⟩) (fun _ _ _ => rfl) (rf_75_5 z) ?_
    refine bq_iconst (q := 18) (v := 3) G (by decide) dX9_carries_17 rfl ?_
    refine bq_iload_n (q := 19) G rfl dX9_carries_18 rfl ?_
    refine bq_iadd (q := 20) G dX9_carries_19 rfl ?_
    refine bq_iald (q := 21) G dX9_carries_20 rfl (by first | assumption | exact ⟨Nat.le_of_ble_eq_true rfl, rfl⟩) (bq_ixa (a := 3) rfl (by first | with_reducible assumption | with_reducible exact rfl | exact rfl)) (by first | with_reducible assumption | omega | decide) (by decide) ?_
    refine bq_iconst (q := 22) (v := 2) G (by decide) dX9_carries_21 rfl ?_
    refine bq_idiv (q := 23) G (by decide) dX9_carries_22 rfl ?_
    refine bq_goto (q := 34) G dX9_carries_23 (by decide) ?_
    exact bq_ri (hret _ _ dX9_carries_34) (by unfold gs_ld; rw [if_pos c10]) rfl rfl
set_option maxHeartbeats 1000000 in
set_option maxRecDepth 100000 in
theorem c_X9_goes {z : Nat} {I : bq_IR} {L : bq_LR}  (hA : ¬ I 77 1 = 0) : bq_FC MX9_goes z [.ref (z + 75)] 85 (bq_Rf z) I L 0 0 (some (.int (gs_T (I 75 16) (I 79)).2.2)) 85 (bq_Rf z) (bq_sr (bq_sr I 75 (upd (I 75) 18 (gs_ran (gs_T (I 75 16) (I 79)).1 (I 75 17)))) 79 (gs_go (I 75 16) (I 75 17) (I 77 1) (I 79))) (L) := by
  refine bq_ofI [some (.ref (z + 75)), none, none, none, none] rfl (Nat.le_of_ble_eq_true rfl) (by decide) rfl rfl ?_
  intro A G hret
  have G : bq_Cx cX9_goes RX9 5 z (bq_rm MX9_goes 0 0) "goes" A := G
  have n79 : (79 : Nat) ≠ 75 := by decide
  have n77 : (77 : Nat) ≠ 79 := by decide
  have n75 : (75 : Nat) ≠ 79 := by decide
  have loop : ∀ k, k ≤ 8 → A 0 0 9 [some (.ref (z + 75)), some (.int (gs_lp k (I 79, I 75 16, 0)).2.2), some (.int (gs_lp k (I 79, I 75 16, 0)).2.1), some (.int (nI k)), none] [] 85 (bq_Rf z) (bq_sr I 79 (gs_lp k (I 79, I 75 16, 0)).1) L := by
    refine bq_down 8 ?_
    intro k hk ih
    rw [show gs_lp (k + 1) (I 79, I 75 16, 0) = gs_st k (gs_lp k (I 79, I 75 16, 0)) from rfl] at ih
    generalize hx : gs_lp k (I 79, I 75 16, 0) = x at ih ⊢
    rcases Nat.lt_or_ge k 8 with hk8 | hk8
    · have ih := ih hk8
      refine bq_iload_n (q := 10) G rfl dX9_goes_9 rfl ?_
      refine bq_bipush (q := 12) (v := 8) G (by decide) dX9_goes_10 rfl ?_
      refine bq_icmp_ge_f (q := 15) (t := 173) G dX9_goes_12 rfl (by decide) (nI_ge (a := k) (b := 8) hk8 (by decide)) ?_
      refine bq_aload_n (q := 16) G rfl dX9_goes_15 rfl ?_
      refine bq_getr (q := 19) G dX9_goes_16 rfl fl_X9_19 (by first | assumption | exact ⟨Nat.le_of_ble_eq_true rfl, rfl⟩) (fun _ _ _ => rfl) (rf_75_5 z) ?_
      refine bq_bipush (q := 21) (v := 19) G (by decide) dX9_goes_19 rfl ?_
      refine bq_iload_n (q := 22) G rfl dX9_goes_21 rfl ?_
      refine bq_iadd (q := 23) G dX9_goes_22 rfl ?_
      refine bq_dup2 (q := 24) G rfl rfl dX9_goes_23 rfl ?_
      refine bq_iald (q := 25) G dX9_goes_24 rfl (by first | assumption | exact ⟨Nat.le_of_ble_eq_true rfl, rfl⟩) (bq_ixa (a := 19) rfl (by first | with_reducible assumption | with_reducible exact rfl | exact rfl)) (by first | with_reducible assumption | omega | decide) (by decide) ?_
      refine bq_aload_n (q := 26) G rfl dX9_goes_25 rfl ?_
      refine bq_getr (q := 29) G dX9_goes_26 rfl fl_X9_19 (by first | assumption | exact ⟨Nat.le_of_ble_eq_true rfl, rfl⟩) (fun _ _ _ => rfl) (rf_75_5 z) ?_
      refine bq_bipush (q := 31) (v := 51) G (by decide) dX9_goes_29 rfl ?_
      refine bq_iload_n (q := 32) G rfl dX9_goes_31 rfl ?_
      refine bq_iadd (q := 33) G dX9_goes_32 rfl ?_
      refine bq_iald (q := 34) G dX9_goes_33 rfl (by first | assumption | exact ⟨Nat.le_of_ble_eq_true rfl, rfl⟩) (bq_ixa (a := 51) rfl (by first | with_reducible assumption | with_reducible exact rfl | exact rfl)) (by first | with_reducible assumption | omega | decide) (by decide) ?_
      refine bq_isub (q := 35) G dX9_goes_34 rfl ?_
      refine bq_iast (q := 36) G dX9_goes_35 rfl (by first | assumption | exact ⟨Nat.le_of_ble_eq_true rfl, rfl⟩) (bq_ixa (a := 19) rfl (by first | with_reducible assumption | with_reducible exact rfl | exact rfl)) (by first | with_reducible assumption | omega | decide) (by decide) ?_
      refine bq_I (I' := bq_sr I 79 (gs_1 k x.1)) (by simp only [bq_sr_s, bq_sr_sr]; rfl) ?_
      have no : ¬ (gs_1 k x.1 (51 + k) = 1 ∧ gs_1 k x.1 (19 + k) ≤ 0 ∧ 0 < x.2.1) → A 0 0 167 [some (.ref (z + 75)), some (.int x.2.2), some (.int x.2.1), some (.int (nI k)), none] [] 85 (bq_Rf z) (bq_sr I 79 (gs_1 k x.1)) L := by
        intro hn
        rw [show gs_st k x = (gs_1 k x.1, x.2.1, x.2.2) from if_neg hn] at ih
        refine bq_iinc (q := 170) (ls' := [_, _, _, _, _]) G dX9_goes_167 rfl rfl (by first | exact nI_1 _ | exact pk_m1 _ | rfl) (by decide) rfl rfl ?_
        refine bq_goto (q := 9) G dX9_goes_170 (by decide) ?_
        exact ih
      refine bq_aload_n (q := 37) G rfl dX9_goes_36 rfl ?_
      refine bq_getr (q := 40) G dX9_goes_37 rfl fl_X9_19 (by first | assumption | exact ⟨Nat.le_of_ble_eq_true rfl, rfl⟩) (fun _ _ _ => rfl) (rf_75_5 z) ?_
      refine bq_bipush (q := 42) (v := 51) G (by decide) dX9_goes_40 rfl ?_
      refine bq_iload_n (q := 43) G rfl dX9_goes_42 rfl ?_
      refine bq_iadd (q := 44) G dX9_goes_43 rfl ?_
      refine bq_iald (q := 45) G dX9_goes_44 rfl (by first | assumption | exact ⟨Nat.le_of_ble_eq_true rfl, rfl⟩) (bq_ixa (a := 51) rfl (by first | with_reducible assumption | with_reducible exact rfl | exact rfl)) (by first | with_reducible assumption | omega | decide) (by decide) ?_
      refine bq_iconst (q := 46) (v := 1) G (by decide) dX9_goes_45 rfl ?_
      refine bq_icmp_ne (t := 167) (q := 49) G dX9_goes_46 (by decide) rfl (fun c46 => ?_) (fun c46 => ?_)
      · rw [bq_sr_s] at c46
        exact no (fun h => c46 h.1)
      · rw [bq_sr_s] at c46
        refine bq_aload_n (q := 50) G rfl dX9_goes_49 rfl ?_
        refine bq_getr (q := 53) G dX9_goes_50 rfl fl_X9_19 (by first | assumption | exact ⟨Nat.le_of_ble_eq_true rfl, rfl⟩) (fun _ _ _ => rfl) (rf_75_5 z) ?_
        refine bq_bipush (q := 55) (v := 19) G (by decide) dX9_goes_53 rfl ?_
        refine bq_iload_n (q := 56) G rfl dX9_goes_55 rfl ?_
        refine bq_iadd (q := 57) G dX9_goes_56 rfl ?_
        refine bq_iald (q := 58) G dX9_goes_57 rfl (by first | assumption | exact ⟨Nat.le_of_ble_eq_true rfl, rfl⟩) (bq_ixa (a := 19) rfl (by first | with_reducible assumption | with_reducible exact rfl | exact rfl)) (by first | with_reducible assumption | omega | decide) (by decide) ?_
        refine bq_if_gt (t := 167) (q := 61) G dX9_goes_58 (by decide) rfl (fun c58 => ?_) (fun c58 => ?_)
        · rw [bq_sr_s] at c58
          exact no (fun h => absurd c58 (Int32.not_lt.mpr h.2.1))
        · rw [bq_sr_s] at c58
          refine bq_iload_n (q := 62) G rfl dX9_goes_61 rfl ?_
          refine bq_if_le (t := 167) (q := 65) G dX9_goes_62 (by decide) rfl (fun c62 => ?_) (fun c62 => ?_)
          · exact no (fun h => absurd h.2.2 (Int32.not_lt.mpr c62))
          · rw [show gs_st k x = (gs_2 k (gs_1 k x.1), x.2.1 - 1, x.2.2 ||| (1 <<< (nI k &&& 31))) from if_pos ⟨c46, Int32.not_lt.mp c58, Int32.not_le.mp c62⟩] at ih
            generalize gs_1 k x.1 = S1 at ih no ⊢
            have fin : ∀ v4 v : Int32, v = gs_wa k S1 → A 0 0 138 [some (.ref (z + 75)), some (.int (x.2.2 ||| (1 <<< (nI k &&& 31)))), some (.int (x.2.1 - 1)), some (.int (nI k)), some (.int v4)] [.int v, .int 1, .ref (z + 79)] 85 (bq_Rf z) (bq_sr I 79 S1) L := by
              intro v4 v hv
              refine bq_iast (q := 139) G dX9_goes_138 rfl (by first | assumption | exact ⟨Nat.le_of_ble_eq_true rfl, rfl⟩) (by first | with_reducible assumption | with_reducible exact rfl | exact bq_ixa rfl (by with_reducible assumption) | exact rfl | exact bq_ixa rfl rfl | exact bq_ixa (by with_reducible assumption) rfl | exact bq_ixa rfl (bq_ixa (by first | rfl | with_reducible assumption) (by first | rfl | with_reducible assumption))) (by first | with_reducible assumption | omega | decide) (by decide) ?_
              refine bq_aload_n (q := 140) G rfl dX9_goes_139 rfl ?_
              refine bq_getr (q := 143) G dX9_goes_140 rfl fl_X9_19 (by first | assumption | exact ⟨Nat.le_of_ble_eq_true rfl, rfl⟩) (fun _ _ _ => rfl) (rf_75_5 z) ?_
              refine bq_bipush (q := 145) (v := 19) G (by decide) dX9_goes_143 rfl ?_
              refine bq_iload_n (q := 146) G rfl dX9_goes_145 rfl ?_
              refine bq_iadd (q := 147) G dX9_goes_146 rfl ?_
              refine bq_aload_n (q := 148) G rfl dX9_goes_147 rfl ?_
              refine bq_getr (q := 151) G dX9_goes_148 rfl fl_X9_19 (by first | assumption | exact ⟨Nat.le_of_ble_eq_true rfl, rfl⟩) (fun _ _ _ => rfl) (rf_75_5 z) ?_
              refine bq_bipush (q := 153) (v := 11) G (by decide) dX9_goes_151 rfl ?_
              refine bq_iload_n (q := 154) G rfl dX9_goes_153 rfl ?_
              refine bq_iadd (q := 155) G dX9_goes_154 rfl ?_
              refine bq_iald (q := 156) G dX9_goes_155 rfl (by first | assumption | exact ⟨Nat.le_of_ble_eq_true rfl, rfl⟩) (bq_ixa (a := 11) rfl (by first | with_reducible assumption | with_reducible exact rfl | exact rfl)) (by first | with_reducible assumption | omega | decide) (by decide) ?_
              refine bq_iast (q := 157) G dX9_goes_156 rfl (by first | assumption | exact ⟨Nat.le_of_ble_eq_true rfl, rfl⟩) (bq_ixa (a := 19) rfl (by first | with_reducible assumption | with_reducible exact rfl | exact rfl)) (by first | with_reducible assumption | omega | decide) (by decide) ?_
              refine bq_aload_n (q := 158) G rfl dX9_goes_157 rfl ?_
              refine bq_getr (q := 161) G dX9_goes_158 rfl fl_X9_19 (by first | assumption | exact ⟨Nat.le_of_ble_eq_true rfl, rfl⟩) (fun _ _ _ => rfl) (rf_75_5 z) ?_
              refine bq_bipush (q := 163) (v := 43) G (by decide) dX9_goes_161 rfl ?_
              refine bq_iload_n (q := 164) G rfl dX9_goes_163 rfl ?_
              refine bq_iadd (q := 165) G dX9_goes_164 rfl ?_
              refine bq_iconst (q := 166) (v := 1) G (by decide) dX9_goes_165 rfl ?_
              refine bq_iast (q := 167) G dX9_goes_166 rfl (by first | assumption | exact ⟨Nat.le_of_ble_eq_true rfl, rfl⟩) (bq_ixa (a := 43) rfl (by first | with_reducible assumption | with_reducible exact rfl | exact rfl)) (by first | with_reducible assumption | omega | decide) (by decide) ?_
              refine bq_iinc (q := 170) (ls' := [_, _, _, _, _]) G dX9_goes_167 rfl rfl (by first | exact nI_1 _ | exact pk_m1 _ | rfl) (by decide) rfl rfl ?_
              refine bq_goto (q := 9) G dX9_goes_170 (by decide) ?_
              refine bq_forget G ?_ (bq_I (I' := bq_sr I 79 (gs_2 k S1)) ?_ ih)
              · repeat (first | exact bq_le_0 _ | refine bq_le_n ?_ | refine bq_le_s rfl ?_)
              simp only [bq_sr_s, bq_sr_sr]
              unfold gs_2
              rw [pk_un (f := S1) (by omega), hv]
            have cl : ∀ y : Int32, y = (S1 1 + (if S1 (27 + k) = 1 then -gs_ld S1 k else gs_ld S1 k)) → A 0 0 108 [some (.ref (z + 75)), some (.int (x.2.2 ||| (1 <<< (nI k &&& 31)))), some (.int (x.2.1 - 1)), some (.int (nI k)), none] [.int y] 85 (bq_Rf z) (bq_sr I 79 S1) L := by
              intro y hy
              refine bq_istore (q := 110) (ls' := [_, _, _, _, _]) G dX9_goes_108 rfl (by decide) rfl rfl ?_
              refine bq_aload_n (q := 111) G rfl dX9_goes_110 rfl ?_
              refine bq_getr (q := 114) G dX9_goes_111 rfl fl_X9_19 (by first | assumption | exact ⟨Nat.le_of_ble_eq_true rfl, rfl⟩) (fun _ _ _ => rfl) (rf_75_5 z) ?_
              refine bq_iconst (q := 115) (v := 1) G (by decide) dX9_goes_114 rfl ?_
              refine bq_iload (q := 117) G rfl dX9_goes_115 rfl ?_
              refine bq_if_ge (t := 124) (q := 120) G dX9_goes_117 (by decide) rfl (fun c117 => ?_) (fun c117 => ?_)
              · refine bq_iload (q := 126) G rfl dX9_goes_124 rfl ?_
                refine bq_ldc (q := 128) G wk_X9_110 dX9_goes_126 rfl ?_
                refine bq_icmp_le (t := 136) (q := 131) G dX9_goes_128 (by decide) rfl (fun c128 => ?_) (fun c128 => ?_)
                · refine bq_iload (q := 138) G rfl dX9_goes_136 rfl ?_
                  exact fin _ _ (by unfold gs_wa gs_cl; rw [← hy, if_neg (Int32.not_lt.mpr c117), if_neg (Int32.not_lt.mpr c128)])
                · refine bq_ldc (q := 133) G wk_X9_110 dX9_goes_131 rfl ?_
                  refine bq_goto (q := 138) G dX9_goes_133 (by decide) ?_
                  exact fin _ _ (by unfold gs_wa gs_cl; rw [← hy, if_neg (Int32.not_lt.mpr c117), if_pos (Int32.not_le.mp c128)])
              · refine bq_iconst (q := 121) (v := 0) G (by decide) dX9_goes_120 rfl ?_
                refine bq_goto (q := 138) G dX9_goes_121 (by decide) ?_
                exact fin _ _ (by unfold gs_wa gs_cl; rw [← hy, if_pos (Int32.not_le.mp c117)])
            refine bq_iinc (q := 68) (ls' := [_, _, _, _, _]) G dX9_goes_65 rfl rfl (bq_m1 _) (by decide) rfl rfl ?_
            refine bq_iload_n (q := 69) G rfl dX9_goes_68 rfl ?_
            refine bq_iconst (q := 70) (v := 1) G (by decide) dX9_goes_69 rfl ?_
            refine bq_iload_n (q := 71) G rfl dX9_goes_70 rfl ?_
            refine bq_ishl (q := 72) G dX9_goes_71 rfl ?_
            refine bq_ior (q := 73) G dX9_goes_72 rfl ?_
            refine bq_istore_n (q := 74) (ls' := [_, _, _, _, _]) G dX9_goes_73 rfl (by decide) rfl rfl ?_
            refine bq_aload_n (q := 75) G rfl dX9_goes_74 rfl ?_
            refine bq_getr (q := 78) G dX9_goes_75 rfl fl_X9_19 (by first | assumption | exact ⟨Nat.le_of_ble_eq_true rfl, rfl⟩) (fun _ _ _ => rfl) (rf_75_5 z) ?_
            refine bq_iconst (q := 79) (v := 1) G (by decide) dX9_goes_78 rfl ?_
            refine bq_iald (q := 80) (b := 1) G dX9_goes_79 rfl (by first | assumption | exact ⟨Nat.le_of_ble_eq_true rfl, rfl⟩) rfl (by first | with_reducible assumption | omega | decide) (by decide) ?_
            refine bq_aload_n (q := 81) G rfl dX9_goes_80 rfl ?_
            refine bq_getr (q := 84) G dX9_goes_81 rfl fl_X9_19 (by first | assumption | exact ⟨Nat.le_of_ble_eq_true rfl, rfl⟩) (fun _ _ _ => rfl) (rf_75_5 z) ?_
            refine bq_bipush (q := 86) (v := 27) G (by decide) dX9_goes_84 rfl ?_
            refine bq_iload_n (q := 87) G rfl dX9_goes_86 rfl ?_
            refine bq_iadd (q := 88) G dX9_goes_87 rfl ?_
            refine bq_iald (q := 89) G dX9_goes_88 rfl (by first | assumption | exact ⟨Nat.le_of_ble_eq_true rfl, rfl⟩) (bq_ixa (a := 27) rfl (by first | with_reducible assumption | with_reducible exact rfl | exact rfl)) (by first | with_reducible assumption | omega | decide) (by decide) ?_
            refine bq_iconst (q := 90) (v := 1) G (by decide) dX9_goes_89 rfl ?_
            refine bq_icmp_ne (t := 102) (q := 93) G dX9_goes_90 (by decide) rfl (fun c90 => ?_) (fun c90 => ?_)
            · rw [bq_sr_s] at c90
              refine bq_aload_n (q := 103) G rfl dX9_goes_102 rfl ?_
              refine bq_iload_n (q := 104) G rfl dX9_goes_103 rfl ?_
              refine bq_callv (q := 107) G dX9_goes_104 rfl cl_X9_107 (c_X9_carries hk8) rfl (by first | assumption | exact ⟨Nat.le_of_ble_eq_true rfl, rfl⟩) rfl ⟨Nat.le_of_ble_eq_true rfl, Nat.le_of_ble_eq_true rfl⟩ (Nat.le_of_ble_eq_true rfl) ⟨Nat.le_of_ble_eq_true rfl, Nat.le_of_ble_eq_true rfl⟩ rfl ?_
              refine bq_iadd (q := 108) G dX9_goes_107 rfl ?_
              refine cl _ ?_
              rw [bq_sr_s, if_neg c90]
            · rw [bq_sr_s] at c90
              refine bq_aload_n (q := 94) G rfl dX9_goes_93 rfl ?_
              refine bq_iload_n (q := 95) G rfl dX9_goes_94 rfl ?_
              refine bq_callv (q := 98) G dX9_goes_95 rfl cl_X9_107 (c_X9_carries hk8) rfl (by first | assumption | exact ⟨Nat.le_of_ble_eq_true rfl, rfl⟩) rfl ⟨Nat.le_of_ble_eq_true rfl, Nat.le_of_ble_eq_true rfl⟩ (Nat.le_of_ble_eq_true rfl) ⟨Nat.le_of_ble_eq_true rfl, Nat.le_of_ble_eq_true rfl⟩ rfl ?_
              refine bq_ineg (q := 99) G dX9_goes_98 rfl ?_
              refine bq_goto (q := 107) G dX9_goes_99 (by decide) ?_
              refine bq_iadd (q := 108) G dX9_goes_107 rfl ?_
              refine cl _ ?_
              rw [bq_sr_s, if_pos c90]
    · have hk9 : k = 8 := by omega
      subst hk9
      have hT : gs_T (I 75 16) (I 79) = x := hx
      rw [hT] at hret
      have tail : ∀ v : Int32, v = gs_ran x.1 (I 75 17) → A 0 0 200 [some (.ref (z + 75)), some (.int x.2.2), some (.int x.2.1), some (.int (nI 8)), none] [.int v, .ref (z + 75)] 85 (bq_Rf z) (bq_sr I 79 x.1) L := by
        intro v hv
        refine bq_puti (q := 203) G dX9_goes_200 rfl fl_X9_114 (by first | assumption | exact ⟨Nat.le_of_ble_eq_true rfl, rfl⟩) rfl rfl ?_
        refine bq_aload_n (q := 204) G rfl dX9_goes_203 rfl ?_
        refine bq_getr (q := 207) G dX9_goes_204 rfl fl_X9_19 (by first | assumption | exact ⟨Nat.le_of_ble_eq_true rfl, rfl⟩) (fun _ _ _ => rfl) (rf_75_5 z) ?_
        refine bq_iconst (q := 208) (v := 1) G (by decide) dX9_goes_207 rfl ?_
        refine bq_dup2 (q := 209) G rfl rfl dX9_goes_208 rfl ?_
        refine bq_iald (q := 210) (b := 1) G dX9_goes_209 rfl (by first | assumption | exact ⟨Nat.le_of_ble_eq_true rfl, rfl⟩) rfl (by first | with_reducible assumption | omega | decide) (by decide) ?_
        refine bq_aload_n (q := 211) G rfl dX9_goes_210 rfl ?_
        refine bq_geti (q := 214) G dX9_goes_211 rfl fl_X9_114 (by first | assumption | exact ⟨Nat.le_of_ble_eq_true rfl, rfl⟩) rfl ?_
        refine bq_isub (q := 215) G dX9_goes_214 rfl ?_
        refine bq_iast (q := 216) (b := 1) G dX9_goes_215 rfl (by first | assumption | exact ⟨Nat.le_of_ble_eq_true rfl, rfl⟩) rfl (by first | with_reducible assumption | omega | decide) (by decide) ?_
        refine bq_aload_n (q := 217) G rfl dX9_goes_216 rfl ?_
        refine bq_getr (q := 220) G dX9_goes_217 rfl fl_X9_19 (by first | assumption | exact ⟨Nat.le_of_ble_eq_true rfl, rfl⟩) (fun _ _ _ => rfl) (rf_75_5 z) ?_
        refine bq_iconst (q := 221) (v := 0) G (by decide) dX9_goes_220 rfl ?_
        refine bq_dup2 (q := 222) G rfl rfl dX9_goes_221 rfl ?_
        refine bq_iald (q := 223) (b := 0) G dX9_goes_222 rfl (by first | assumption | exact ⟨Nat.le_of_ble_eq_true rfl, rfl⟩) rfl (by first | with_reducible assumption | omega | decide) (by decide) ?_
        refine bq_iconst (q := 224) (v := 1) G (by decide) dX9_goes_223 rfl ?_
        refine bq_iadd (q := 225) G dX9_goes_224 rfl ?_
        refine bq_iast (q := 226) (b := 0) G dX9_goes_225 rfl (by first | assumption | exact ⟨Nat.le_of_ble_eq_true rfl, rfl⟩) rfl (by first | with_reducible assumption | omega | decide) (by decide) ?_
        refine bq_I (I' := bq_sr (bq_sr I 75 (upd (I 75) 18 (gs_ran x.1 (I 75 17)))) 79 (gs_min (I 75 16) (I 75 17) (I 79))) ?_ ?_
        · have e : bq_sr (bq_sr I 79 x.1) 75 (upd (bq_sr I 79 x.1 75) 18 v) = bq_sr (bq_sr I 75 (upd (I 75) 18 v)) 79 x.1 := by rw [bq_sr_c n79, bq_sr_n n75]
          rw [e]
          simp only [bq_sr_s, bq_sr_sr]
          rw [bq_sr_n (show (75 : Nat) ≠ 79 by decide), bq_sr_s, pk_us, hv]
          unfold gs_min
          rw [hT]
          rw [pk_un (show (0 : Nat) ≠ 1 by decide)]
        generalize hJ : bq_sr I 75 (upd (I 75) 18 (gs_ran x.1 (I 75 17))) = J
        have hA2 : ∀ f : Nat → Int32, ¬ bq_sr J 79 f 77 1 = 0 := fun f => by rw [bq_sr_n n77, ← hJ, bq_sr_n (by decide)]; exact hA
        have hA3 : J 77 = I 77 := by rw [← hJ, bq_sr_n (by decide)]
        have fin : ∀ v : Int32, v = (if gs_min (I 75 16) (I 75 17) (I 79) 2 < gs_min (I 75 16) (I 75 17) (I 79) 1 / I 77 1 then gs_min (I 75 16) (I 75 17) (I 79) 1 / I 77 1 else gs_min (I 75 16) (I 75 17) (I 79) 2) → A 0 0 257 [some (.ref (z + 75)), some (.int x.2.2), some (.int x.2.1), some (.int (nI 8)), none] [.int v, .int 2, .ref (z + 79)] 85 (bq_Rf z) (bq_sr J 79 (gs_min (I 75 16) (I 75 17) (I 79))) L := by
          intro v hv
          refine bq_iast (q := 258) G dX9_goes_257 rfl (by first | assumption | exact ⟨Nat.le_of_ble_eq_true rfl, rfl⟩) (by first | with_reducible assumption | with_reducible exact rfl | exact bq_ixa rfl (by with_reducible assumption) | exact rfl | exact bq_ixa rfl rfl | exact bq_ixa (by with_reducible assumption) rfl | exact bq_ixa rfl (bq_ixa (by first | rfl | with_reducible assumption) (by first | rfl | with_reducible assumption))) (by first | with_reducible assumption | omega | decide) (by decide) ?_
          refine bq_iload_n (q := 259) G rfl dX9_goes_258 rfl ?_
          refine bq_ri (hret _ _ dX9_goes_259) rfl ?_ rfl
          simp only [bq_sr_s, bq_sr_sr]
          rw [hJ, hv]
          rfl
        refine bq_aload_n (q := 227) G rfl dX9_goes_226 rfl ?_
        refine bq_getr (q := 230) G dX9_goes_227 rfl fl_X9_19 (by first | assumption | exact ⟨Nat.le_of_ble_eq_true rfl, rfl⟩) (fun _ _ _ => rfl) (rf_75_5 z) ?_
        refine bq_iconst (q := 231) (v := 2) G (by decide) dX9_goes_230 rfl ?_
        refine bq_aload_n (q := 232) G rfl dX9_goes_231 rfl ?_
        refine bq_callv (q := 235) G dX9_goes_232 rfl cl_X9_88 (c_X9_high (hA2 _)) rfl (by first | assumption | exact ⟨Nat.le_of_ble_eq_true rfl, rfl⟩) rfl ⟨Nat.le_of_ble_eq_true rfl, Nat.le_of_ble_eq_true rfl⟩ (Nat.le_of_ble_eq_true rfl) ⟨Nat.le_of_ble_eq_true rfl, Nat.le_of_ble_eq_true rfl⟩ rfl ?_
        refine bq_aload_n (q := 236) G rfl dX9_goes_235 rfl ?_
        refine bq_getr (q := 239) G dX9_goes_236 rfl fl_X9_19 (by first | assumption | exact ⟨Nat.le_of_ble_eq_true rfl, rfl⟩) (fun _ _ _ => rfl) (rf_75_5 z) ?_
        refine bq_iconst (q := 240) (v := 2) G (by decide) dX9_goes_239 rfl ?_
        refine bq_iald (q := 241) (b := 2) G dX9_goes_240 rfl (by first | assumption | exact ⟨Nat.le_of_ble_eq_true rfl, rfl⟩) rfl (by first | with_reducible assumption | omega | decide) (by decide) ?_
        refine bq_icmp_le (t := 251) (q := 244) G dX9_goes_241 (by decide) rfl (fun c241 => ?_) (fun c241 => ?_)
        · simp only [bq_sr_s, bq_sr_n n77, hA3] at c241
          refine bq_aload_n (q := 252) G rfl dX9_goes_251 rfl ?_
          refine bq_getr (q := 255) G dX9_goes_252 rfl fl_X9_19 (by first | assumption | exact ⟨Nat.le_of_ble_eq_true rfl, rfl⟩) (fun _ _ _ => rfl) (rf_75_5 z) ?_
          refine bq_iconst (q := 256) (v := 2) G (by decide) dX9_goes_255 rfl ?_
          refine bq_iald (q := 257) (b := 2) G dX9_goes_256 rfl (by first | assumption | exact ⟨Nat.le_of_ble_eq_true rfl, rfl⟩) rfl (by first | with_reducible assumption | omega | decide) (by decide) ?_
          refine fin _ ?_
          rw [bq_sr_s, if_neg (Int32.not_lt.mpr c241)]
        · simp only [bq_sr_s, bq_sr_n n77, hA3] at c241
          refine bq_aload_n (q := 245) G rfl dX9_goes_244 rfl ?_
          refine bq_callv (q := 248) G dX9_goes_245 rfl cl_X9_88 (c_X9_high (hA2 _)) rfl (by first | assumption | exact ⟨Nat.le_of_ble_eq_true rfl, rfl⟩) rfl ⟨Nat.le_of_ble_eq_true rfl, Nat.le_of_ble_eq_true rfl⟩ (Nat.le_of_ble_eq_true rfl) ⟨Nat.le_of_ble_eq_true rfl, Nat.le_of_ble_eq_true rfl⟩ rfl ?_
          refine bq_goto (q := 257) G dX9_goes_248 (by decide) ?_
          refine fin _ ?_
          rw [bq_sr_s, bq_sr_n n77, hA3, if_pos (Int32.not_le.mp c241)]
      refine bq_iload_n (q := 10) G rfl dX9_goes_9 rfl ?_
      refine bq_bipush (q := 12) (v := 8) G (by decide) dX9_goes_10 rfl ?_
      refine bq_icmp_ge_t (t := 173) G dX9_goes_12 (by decide) (nI_le (a := 8) (b := 8) (by omega) (by decide)) ?_
      refine bq_aload_n (q := 174) G rfl dX9_goes_173 rfl ?_
      refine bq_aload_n (q := 175) G rfl dX9_goes_174 rfl ?_
      refine bq_getr (q := 178) G dX9_goes_175 rfl fl_X9_19 (by first | assumption | exact ⟨Nat.le_of_ble_eq_true rfl, rfl⟩) (fun _ _ _ => rfl) (rf_75_5 z) ?_
      refine bq_iconst (q := 179) (v := 1) G (by decide) dX9_goes_178 rfl ?_
      refine bq_iald (q := 180) (b := 1) G dX9_goes_179 rfl (by first | assumption | exact ⟨Nat.le_of_ble_eq_true rfl, rfl⟩) rfl (by first | with_reducible assumption | omega | decide) (by decide) ?_
      refine bq_aload_n (q := 181) G rfl dX9_goes_180 rfl ?_
      refine bq_geti (q := 184) G dX9_goes_181 rfl fl_X9_111 (by first | assumption | exact ⟨Nat.le_of_ble_eq_true rfl, rfl⟩) rfl ?_
      refine bq_icmp_ge (t := 196) (q := 187) G dX9_goes_184 (by decide) rfl (fun c184 => ?_) (fun c184 => ?_)
      · rw [bq_sr_s, bq_sr_n n75] at c184
        refine bq_aload_n (q := 197) G rfl dX9_goes_196 rfl ?_
        refine bq_geti (q := 200) G dX9_goes_197 rfl fl_X9_111 (by first | assumption | exact ⟨Nat.le_of_ble_eq_true rfl, rfl⟩) rfl ?_
        refine tail _ ?_
        rw [bq_sr_n n75]
        unfold gs_ran
        rw [if_neg (Int32.not_lt.mpr c184)]
      · rw [bq_sr_s, bq_sr_n n75] at c184
        refine bq_aload_n (q := 188) G rfl dX9_goes_187 rfl ?_
        refine bq_getr (q := 191) G dX9_goes_188 rfl fl_X9_19 (by first | assumption | exact ⟨Nat.le_of_ble_eq_true rfl, rfl⟩) (fun _ _ _ => rfl) (rf_75_5 z) ?_
        refine bq_iconst (q := 192) (v := 1) G (by decide) dX9_goes_191 rfl ?_
        refine bq_iald (q := 193) (b := 1) G dX9_goes_192 rfl (by first | assumption | exact ⟨Nat.le_of_ble_eq_true rfl, rfl⟩) rfl (by first | with_reducible assumption | omega | decide) (by decide) ?_
        refine bq_goto (q := 200) G dX9_goes_193 (by decide) ?_
        refine tail _ ?_
        rw [bq_sr_s]
        unfold gs_ran
        rw [if_pos (Int32.not_le.mp c184)]
  refine bq_iconst (q := 1) (v := 0) G (by decide) dX9_goes_0 rfl ?_
  refine bq_istore_n (q := 2) (ls' := [_, _, _, _, _]) G dX9_goes_1 rfl (by decide) rfl rfl ?_
  refine bq_aload_n (q := 3) G rfl dX9_goes_2 rfl ?_
  refine bq_geti (q := 6) G dX9_goes_3 rfl fl_X9_104 (by first | assumption | exact ⟨Nat.le_of_ble_eq_true rfl, rfl⟩) rfl ?_
  refine bq_istore_n (q := 7) (ls' := [_, _, _, _, _]) G dX9_goes_6 rfl (by decide) rfl rfl ?_
  refine bq_iconst (q := 8) (v := 0) G (by decide) dX9_goes_7 rfl ?_
  refine bq_istore_n (q := 9) (ls' := [_, _, _, _, _]) G dX9_goes_8 rfl (by decide) rfl rfl ?_
  refine bq_I (I' := bq_sr I 79 (I 79)) (bq_sr_id I 79).symm ?_
  exact loop 0 (by omega)
