def gs_mP (I : bq_IR) (p : Nat) (S : Nat → Int32) (J : bq_IR) : Prop := (J 79 = S ∧ J 80 = gs_kp p (I 80) (I 79) ∧ J 75 7 = nI (gs_kn p)) ∧ (∀ j, j ≠ 7 → j ≠ 16 → j ≠ 17 → j ≠ 18 → J 75 j = I 75 j) ∧ ∀ x, x ≠ 75 → x ≠ 79 → x ≠ 80 → J x = I x
theorem gs_mP.kp (I : bq_IR) (p : Nat) : gs_mP I p (I 79) (gs_KP I p) := by
  refine ⟨⟨gs_KP79 I p, ?_, ?_⟩, fun j h1 _ _ _ => ?_, fun x h1 h2 h3 => ?_⟩
  · unfold gs_KP; rw [bq_sr_n (by decide), bq_sr_s]
  · unfold gs_KP; rw [bq_sr_s, pk_us]
  · unfold gs_KP; rw [bq_sr_s, pk_un h1]
  · unfold gs_KP; rw [bq_sr_n h1, bq_sr_n h3]
theorem gs_mP.put {I J : bq_IR} {p : Nat} {S S' : Nat → Int32} (h : gs_mP I p S J) : gs_mP I p S' (bq_sr J 79 S') := by
  refine ⟨⟨bq_sr_s _ _ _, ?_, ?_⟩, fun j h1 h2 h3 h4 => ?_, fun x h1 h2 h3 => ?_⟩
  · rw [bq_sr_n (by decide)]; exact h.1.2.1
  · rw [bq_sr_n (by decide)]; exact h.1.2.2
  · rw [bq_sr_n (by decide)]; exact h.2.1 j h1 h2 h3 h4
  · rw [bq_sr_n h2]; exact h.2.2 x h1 h2 h3
theorem gs_mP.p75 {I J : bq_IR} {p : Nat} {S : Nat → Int32} (h : gs_mP I p S J) {i : Nat} (hi : i = 16 ∨ i = 17 ∨ i = 18) (v : Int32) : gs_mP I p S (bq_sr J 75 (upd (J 75) i v)) := by
  refine ⟨⟨?_, ?_, ?_⟩, fun j h1 h2 h3 h4 => ?_, fun x h1 h2 h3 => ?_⟩
  · rw [bq_sr_n (by decide)]; exact h.1.1
  · rw [bq_sr_n (by decide)]; exact h.1.2.1
  · rw [bq_sr_s, pk_un (by omega)]; exact h.1.2.2
  · rw [bq_sr_s, pk_un (by omega)]; exact h.2.1 j h1 h2 h3 h4
  · rw [bq_sr_n h1]; exact h.2.2 x h1 h2 h3
set_option maxHeartbeats 1000000 in
set_option maxRecDepth 100000 in
theorem c_X9_minute {z : Nat} {I : bq_IR} {L : bq_LR} {p : Nat} (hA : ¬ I 77 1 = 0) (hp : I 75 7 = nI p) (hp8 : p ≤ 8) : bq_FI MX9_minute z [.ref (z + 75)] 85 (bq_Rf z) I L (fun r J L' => ((I 79 0 = 9999 ∧ r = -2 ∧ J = I) ∨ (¬ I 79 0 = 9999 ∧ r = gs_go (I 77 4) (I 77 2) (I 77 1) (I 79) 1 / I 77 1 ∧ gs_mP I p (gs_go (I 77 4) (I 77 2) (I 77 1) (I 79)) J)) ∧ L' = L) := by
  refine bq_FIof [some (.ref (z + 75))] rfl (Nat.le_of_ble_eq_true rfl) (by decide) rfl (fun _ _ _ _ => rfl) ?_
  intro A G hret
  have G : bq_Cx cX9_minute RX9 1 z (bq_rm MX9_minute 0 0) "minute" A := G
  refine bq_aload_n (q := 1) G rfl dX9_minute_0 rfl ?_
  refine bq_getr (q := 4) G dX9_minute_1 rfl fl_X9_19 (by first | assumption | exact ⟨Nat.le_of_ble_eq_true rfl, rfl⟩) (fun _ _ _ => rfl) (rf_75_5 z) ?_
  refine bq_iconst (q := 5) (v := 0) G (by decide) dX9_minute_4 rfl ?_
  refine bq_iald (q := 6) (b := 0) G dX9_minute_5 rfl (by first | assumption | exact ⟨Nat.le_of_ble_eq_true rfl, rfl⟩) rfl (by first | with_reducible assumption | omega | decide) (by decide) ?_
  refine bq_sipush (q := 9) (v := 9999) G (by decide) dX9_minute_6 rfl ?_
  refine bq_icmp_ne (t := 15) (q := 12) G dX9_minute_9 (by decide) rfl (fun c9 => ?_) (fun c9 => ?_)
  · have hA1 : ¬ bq_sr (gs_KP I p) 75 (upd (upd (gs_KP I p 75) 16 (gs_KP I p 77 4)) 17 (gs_KP I p 77 2)) 77 1 = 0 := by rw [bq_sr_n (by decide), gs_KP77]; exact hA
    have m1 : gs_mP I p (I 79) (bq_sr (gs_KP I p) 75 (upd (upd (gs_KP I p 75) 16 (gs_KP I p 77 4)) 17 (gs_KP I p 77 2))) := by
      have h1 := ((gs_mP.kp I p).p75 (i := 16) (by omega) (gs_KP I p 77 4)).p75 (i := 17) (by omega) (gs_KP I p 77 2)
      rw [bq_sr_sr, bq_sr_s] at h1
      exact h1
    have ew : bq_sr (gs_KP I p) 75 (upd (upd (gs_KP I p 75) 16 (gs_KP I p 77 4)) 17 (gs_KP I p 77 2)) 75 16 = I 77 4 := by rw [bq_sr_s, pk_un (by decide), pk_us, gs_KP77]
    have ed : bq_sr (gs_KP I p) 75 (upd (upd (gs_KP I p 75) 16 (gs_KP I p 77 4)) 17 (gs_KP I p 77 2)) 75 17 = I 77 2 := by rw [bq_sr_s, pk_us, gs_KP77]
    have e77 : bq_sr (gs_KP I p) 75 (upd (upd (gs_KP I p 75) 16 (gs_KP I p 77 4)) 17 (gs_KP I p 77 2)) 77 = I 77 := by rw [bq_sr_n (by decide), gs_KP77]
    refine bq_aload_n (q := 16) G rfl dX9_minute_15 rfl ?_
    refine bq_callv (q := 19) G dX9_minute_16 rfl cl_X9_117 (c_keeps hp hp8) rfl (by first | assumption | exact ⟨Nat.le_of_ble_eq_true rfl, rfl⟩) rfl ⟨Nat.le_of_ble_eq_true rfl, Nat.le_of_ble_eq_true rfl⟩ (Nat.le_of_ble_eq_true rfl) ⟨Nat.le_of_ble_eq_true rfl, Nat.le_of_ble_eq_true rfl⟩ rfl ?_
    refine bq_aload_n (q := 20) G rfl dX9_minute_19 rfl ?_
    refine bq_callv (q := 23) G dX9_minute_20 rfl cl_X9_120 (c_X9_asTold) rfl (by first | assumption | exact ⟨Nat.le_of_ble_eq_true rfl, rfl⟩) rfl ⟨Nat.le_of_ble_eq_true rfl, Nat.le_of_ble_eq_true rfl⟩ (Nat.le_of_ble_eq_true rfl) ⟨Nat.le_of_ble_eq_true rfl, Nat.le_of_ble_eq_true rfl⟩ rfl ?_
    generalize bq_sr (gs_KP I p) 75 (upd (upd (gs_KP I p 75) 16 (gs_KP I p 77 4)) 17 (gs_KP I p 77 2)) = K at hA1 m1 ew ed e77 ⊢
    have hA2 : ∀ (f : Nat → Int32) (g : Nat → Int32), ¬ bq_sr (bq_sr K 75 f) 79 g 77 1 = 0 := fun f g => by rw [bq_sr_n (by decide), bq_sr_n (by decide)]; exact hA1
    refine bq_aload_n (q := 24) G rfl dX9_minute_23 rfl ?_
    refine bq_callv (q := 27) G dX9_minute_24 rfl cl_X9_123 (c_X9_goes hA1) rfl (by first | assumption | exact ⟨Nat.le_of_ble_eq_true rfl, rfl⟩) rfl ⟨Nat.le_of_ble_eq_true rfl, Nat.le_of_ble_eq_true rfl⟩ (Nat.le_of_ble_eq_true rfl) ⟨Nat.le_of_ble_eq_true rfl, Nat.le_of_ble_eq_true rfl⟩ rfl ?_
    refine bq_pop (q := 28) G rfl dX9_minute_27 rfl ?_
    refine bq_aload_n (q := 29) G rfl dX9_minute_28 rfl ?_
    refine bq_callv (q := 32) G dX9_minute_29 rfl cl_X9_88 (c_X9_high (hA2 _ _)) rfl (by first | assumption | exact ⟨Nat.le_of_ble_eq_true rfl, rfl⟩) rfl ⟨Nat.le_of_ble_eq_true rfl, Nat.le_of_ble_eq_true rfl⟩ (Nat.le_of_ble_eq_true rfl) ⟨Nat.le_of_ble_eq_true rfl, Nat.le_of_ble_eq_true rfl⟩ rfl ?_
    refine hret _ _ _ _ _ dX9_minute_32 ⟨Or.inr ⟨c9, ?_, ?_⟩, rfl⟩
    · rw [bq_sr_s, bq_sr_n (by decide), bq_sr_n (by decide), ew, ed, e77, m1.1.1]
    · have h2 := (m1.p75 (i := 18) (by omega) (gs_ran (gs_T (K 75 16) (K 79)).1 (K 75 17))).put (S' := gs_go (K 75 16) (K 75 17) (K 77 1) (K 79))
      rw [ew, ed, e77, m1.1.1] at h2 ⊢
      exact h2
  · refine bq_bipush (q := 14) (v := -2) G (by decide) dX9_minute_12 rfl ?_
    exact hret _ _ _ _ _ dX9_minute_14 ⟨Or.inl ⟨c9, rfl, rfl⟩, rfl⟩
set_option maxHeartbeats 1000000 in
set_option maxRecDepth 100000 in
theorem c_X9_splits {z : Nat} {I : bq_IR} {L : bq_LR} {b : Int32} {p : Nat} (hp : I 75 7 = nI p) (hp8 : p ≤ 8) : bq_FI MX9_splits z [.ref (z + 75), .int b] 85 (bq_Rf z) I L (fun r J L' => ((¬ ((0 ≤ b ∧ b ≤ 7) ∧ I 79 (51 + b.toNatClampNeg) = 1) ∧ r = -1 ∧ J = I) ∨ ∃ k : Nat, k < 8 ∧ b = nI k ∧ I 79 (51 + k) = 1 ∧ ((¬ (I 79 (3 + k) = 1 ∨ ¬ gs_fk (I 79) 8 0 = -9) ∧ r = -3 ∧ J = I) ∨ ((I 79 (3 + k) = 1 ∨ ¬ gs_fk (I 79) 8 0 = -9) ∧ r = gs_spr k (I 79) ∧ gs_mP I p (gs_sp k (I 79)) J))) ∧ L' = L) := by
  refine bq_FIof [some (.ref (z + 75)), some (.int b)] rfl (Nat.le_of_ble_eq_true rfl) (by decide) rfl (fun _ _ _ _ => rfl) ?_
  intro A G hret
  have G : bq_Cx cX9_splits RX9 2 z (bq_rm MX9_splits 0 0) "splits" A := G
  refine bq_aload_n (q := 1) G rfl dX9_splits_0 rfl ?_
  refine bq_iload_n (q := 2) G rfl dX9_splits_1 rfl ?_
  refine bq_callv (q := 5) G dX9_splits_2 rfl cl_X9_129 (c_X9_isThere) rfl (by first | assumption | exact ⟨Nat.le_of_ble_eq_true rfl, rfl⟩) rfl ⟨Nat.le_of_ble_eq_true rfl, Nat.le_of_ble_eq_true rfl⟩ (Nat.le_of_ble_eq_true rfl) ⟨Nat.le_of_ble_eq_true rfl, Nat.le_of_ble_eq_true rfl⟩ rfl ?_
  first | refine bq_ifb_ne (t := 10) (q := 8) G dX9_splits_5 (by decide) rfl (fun c5 => ?_) (fun c5 => ?_) | refine bq_if_ne (t := 10) (q := 8) G dX9_splits_5 (by decide) rfl (fun c5 => ?_) (fun c5 => ?_)
  · obtain ⟨k, hk, rfl, h51⟩ := gs_th_ex (S := I 79) c5
    refine bq_aload_n (q := 11) G rfl dX9_splits_10 rfl ?_
    refine bq_iload_n (q := 12) G rfl dX9_splits_11 rfl ?_
    refine bq_callv (q := 15) G dX9_splits_12 rfl cl_X9_132 (c_X9_canSplit hk) rfl (by first | assumption | exact ⟨Nat.le_of_ble_eq_true rfl, rfl⟩) rfl ⟨Nat.le_of_ble_eq_true rfl, Nat.le_of_ble_eq_true rfl⟩ (Nat.le_of_ble_eq_true rfl) ⟨Nat.le_of_ble_eq_true rfl, Nat.le_of_ble_eq_true rfl⟩ rfl ?_
    first | refine bq_ifb_ne (t := 21) (q := 18) G dX9_splits_15 (by decide) rfl (fun c15 => ?_) (fun c15 => ?_) | refine bq_if_ne (t := 21) (q := 18) G dX9_splits_15 (by decide) rfl (fun c15 => ?_) (fun c15 => ?_)
    · refine bq_aload_n (q := 22) G rfl dX9_splits_21 rfl ?_
      refine bq_callv (q := 25) G dX9_splits_22 rfl cl_X9_117 (c_keeps hp hp8) rfl (by first | assumption | exact ⟨Nat.le_of_ble_eq_true rfl, rfl⟩) rfl ⟨Nat.le_of_ble_eq_true rfl, Nat.le_of_ble_eq_true rfl⟩ (Nat.le_of_ble_eq_true rfl) ⟨Nat.le_of_ble_eq_true rfl, Nat.le_of_ble_eq_true rfl⟩ rfl ?_
      have e := gs_KP79 I p
      have m := gs_mP.kp I p
      generalize gs_KP I p = K at e m ⊢
      refine bq_aload_n (q := 26) G rfl dX9_splits_25 rfl ?_
      refine bq_iload_n (q := 27) G rfl dX9_splits_26 rfl ?_
      refine bq_callv (q := 30) G dX9_splits_27 rfl cl_X9_135 (c_X9_splitsNow hk (fun h1 => by rw [e] at h1 ⊢; exact c15.elim (fun h2 => absurd h2 h1) id)) rfl (by first | assumption | exact ⟨Nat.le_of_ble_eq_true rfl, rfl⟩) rfl ⟨Nat.le_of_ble_eq_true rfl, Nat.le_of_ble_eq_true rfl⟩ (Nat.le_of_ble_eq_true rfl) ⟨Nat.le_of_ble_eq_true rfl, Nat.le_of_ble_eq_true rfl⟩ rfl ?_
      refine hret _ _ _ _ _ dX9_splits_30 ⟨Or.inr ⟨k, hk, rfl, h51, Or.inr ⟨c15, by rw [e], ?_⟩⟩, rfl⟩
      rw [e]
      exact m.put
    · refine bq_bipush (q := 20) (v := -3) G (by decide) dX9_splits_18 rfl ?_
      exact hret _ _ _ _ _ dX9_splits_20 ⟨Or.inr ⟨k, hk, rfl, h51, Or.inl ⟨c15, rfl, rfl⟩⟩, rfl⟩
  · refine bq_iconst (q := 9) (v := -1) G (by decide) dX9_splits_8 rfl ?_
    exact hret _ _ _ _ _ dX9_splits_9 ⟨Or.inl ⟨c5, rfl, rfl⟩, rfl⟩
set_option maxHeartbeats 1000000 in
set_option maxRecDepth 100000 in
theorem c_X9_teaches {z : Nat} {I : bq_IR} {L : bq_LR} {b : Int32} {p : Nat} (hp : I 75 7 = nI p) (hp8 : p ≤ 8) : bq_FI MX9_teaches z [.ref (z + 75), .int b] 85 (bq_Rf z) I L (fun r J L' => ((¬ ((0 ≤ b ∧ b ≤ 7) ∧ I 79 (51 + b.toNatClampNeg) = 1) ∧ r = -1 ∧ J = I) ∨ ∃ k : Nat, k < 8 ∧ b = nI k ∧ I 79 (51 + k) = 1 ∧ (r = 1 - I 79 (27 + k) ∧ gs_mP I p (upd (I 79) (27 + k) (1 - I 79 (27 + k))) J)) ∧ L' = L) := by
  refine bq_FIof [some (.ref (z + 75)), some (.int b)] rfl (Nat.le_of_ble_eq_true rfl) (by decide) rfl (fun _ _ _ _ => rfl) ?_
  intro A G hret
  have G : bq_Cx cX9_teaches RX9 2 z (bq_rm MX9_teaches 0 0) "teaches" A := G
  refine bq_aload_n (q := 1) G rfl dX9_teaches_0 rfl ?_
  refine bq_iload_n (q := 2) G rfl dX9_teaches_1 rfl ?_
  refine bq_callv (q := 5) G dX9_teaches_2 rfl cl_X9_129 (c_X9_isThere) rfl (by first | assumption | exact ⟨Nat.le_of_ble_eq_true rfl, rfl⟩) rfl ⟨Nat.le_of_ble_eq_true rfl, Nat.le_of_ble_eq_true rfl⟩ (Nat.le_of_ble_eq_true rfl) ⟨Nat.le_of_ble_eq_true rfl, Nat.le_of_ble_eq_true rfl⟩ rfl ?_
  first | refine bq_ifb_ne (t := 10) (q := 8) G dX9_teaches_5 (by decide) rfl (fun c5 => ?_) (fun c5 => ?_) | refine bq_if_ne (t := 10) (q := 8) G dX9_teaches_5 (by decide) rfl (fun c5 => ?_) (fun c5 => ?_)
  · obtain ⟨k, hk, rfl, h51⟩ := gs_th_ex (S := I 79) c5
    refine bq_aload_n (q := 11) G rfl dX9_teaches_10 rfl ?_
    refine bq_callv (q := 14) G dX9_teaches_11 rfl cl_X9_117 (c_keeps hp hp8) rfl (by first | assumption | exact ⟨Nat.le_of_ble_eq_true rfl, rfl⟩) rfl ⟨Nat.le_of_ble_eq_true rfl, Nat.le_of_ble_eq_true rfl⟩ (Nat.le_of_ble_eq_true rfl) ⟨Nat.le_of_ble_eq_true rfl, Nat.le_of_ble_eq_true rfl⟩ rfl ?_
    have e := gs_KP79 I p
    have m := gs_mP.kp I p
    generalize gs_KP I p = K at e m ⊢
    refine bq_aload_n (q := 15) G rfl dX9_teaches_14 rfl ?_
    refine bq_getr (q := 18) G dX9_teaches_15 rfl fl_X9_19 (by first | assumption | exact ⟨Nat.le_of_ble_eq_true rfl, rfl⟩) (fun _ _ _ => rfl) (rf_75_5 z) ?_
    refine bq_bipush (q := 20) (v := 27) G (by decide) dX9_teaches_18 rfl ?_
    refine bq_iload_n (q := 21) G rfl dX9_teaches_20 rfl ?_
    refine bq_iadd (q := 22) G dX9_teaches_21 rfl ?_
    refine bq_iconst (q := 23) (v := 1) G (by decide) dX9_teaches_22 rfl ?_
    refine bq_aload_n (q := 24) G rfl dX9_teaches_23 rfl ?_
    refine bq_getr (q := 27) G dX9_teaches_24 rfl fl_X9_19 (by first | assumption | exact ⟨Nat.le_of_ble_eq_true rfl, rfl⟩) (fun _ _ _ => rfl) (rf_75_5 z) ?_
    refine bq_bipush (q := 29) (v := 27) G (by decide) dX9_teaches_27 rfl ?_
    refine bq_iload_n (q := 30) G rfl dX9_teaches_29 rfl ?_
    refine bq_iadd (q := 31) G dX9_teaches_30 rfl ?_
    refine bq_iald (q := 32) G dX9_teaches_31 rfl (by first | assumption | exact ⟨Nat.le_of_ble_eq_true rfl, rfl⟩) (bq_ixa (a := 27) rfl (by first | with_reducible assumption | with_reducible exact rfl | exact rfl)) (by first | with_reducible assumption | omega | decide) (by decide) ?_
    refine bq_isub (q := 33) G dX9_teaches_32 rfl ?_
    refine bq_iast (q := 34) G dX9_teaches_33 rfl (by first | assumption | exact ⟨Nat.le_of_ble_eq_true rfl, rfl⟩) (bq_ixa (a := 27) rfl (by first | with_reducible assumption | with_reducible exact rfl | exact rfl)) (by first | with_reducible assumption | omega | decide) (by decide) ?_
    refine bq_aload_n (q := 35) G rfl dX9_teaches_34 rfl ?_
    refine bq_getr (q := 38) G dX9_teaches_35 rfl fl_X9_19 (by first | assumption | exact ⟨Nat.le_of_ble_eq_true rfl, rfl⟩) (fun _ _ _ => rfl) (rf_75_5 z) ?_
    refine bq_bipush (q := 40) (v := 27) G (by decide) dX9_teaches_38 rfl ?_
    refine bq_iload_n (q := 41) G rfl dX9_teaches_40 rfl ?_
    refine bq_iadd (q := 42) G dX9_teaches_41 rfl ?_
    refine bq_iald (q := 43) G dX9_teaches_42 rfl (by first | assumption | exact ⟨Nat.le_of_ble_eq_true rfl, rfl⟩) (bq_ixa (a := 27) rfl (by first | with_reducible assumption | with_reducible exact rfl | exact rfl)) (by first | with_reducible assumption | omega | decide) (by decide) ?_
    refine hret _ _ _ _ _ dX9_teaches_43 ⟨Or.inr ⟨k, hk, rfl, h51, ?_, ?_⟩, rfl⟩
    · rw [bq_sr_s, pk_us, e]
    · rw [e]; exact m.put
  · refine bq_iconst (q := 9) (v := -1) G (by decide) dX9_teaches_8 rfl ?_
    exact hret _ _ _ _ _ dX9_teaches_9 ⟨Or.inl ⟨c5, rfl, rfl⟩, rfl⟩
set_option maxHeartbeats 1000000 in
set_option maxRecDepth 100000 in
theorem c_X9_bores {z : Nat} {I : bq_IR} {L : bq_LR} {b : Int32} {p : Nat} (hp : I 75 7 = nI p) (hp8 : p ≤ 8) : bq_FI MX9_bores z [.ref (z + 75), .int b] 85 (bq_Rf z) I L (fun r J L' => ((¬ ((0 ≤ b ∧ b ≤ 7) ∧ I 79 (51 + b.toNatClampNeg) = 1) ∧ r = -1 ∧ J = I) ∨ ∃ k : Nat, k < 8 ∧ b = nI k ∧ I 79 (51 + k) = 1 ∧ ((I 79 (35 + k) = 1 ∧ r = -2 ∧ J = I) ∨ (¬ I 79 (35 + k) = 1 ∧ r = I 79 (3 + k) ∧ gs_mP I p (upd (I 79) (35 + k) 1) J))) ∧ L' = L) := by
  refine bq_FIof [some (.ref (z + 75)), some (.int b)] rfl (Nat.le_of_ble_eq_true rfl) (by decide) rfl (fun _ _ _ _ => rfl) ?_
  intro A G hret
  have G : bq_Cx cX9_bores RX9 2 z (bq_rm MX9_bores 0 0) "bores" A := G
  refine bq_aload_n (q := 1) G rfl dX9_bores_0 rfl ?_
  refine bq_iload_n (q := 2) G rfl dX9_bores_1 rfl ?_
  refine bq_callv (q := 5) G dX9_bores_2 rfl cl_X9_129 (c_X9_isThere) rfl (by first | assumption | exact ⟨Nat.le_of_ble_eq_true rfl, rfl⟩) rfl ⟨Nat.le_of_ble_eq_true rfl, Nat.le_of_ble_eq_true rfl⟩ (Nat.le_of_ble_eq_true rfl) ⟨Nat.le_of_ble_eq_true rfl, Nat.le_of_ble_eq_true rfl⟩ rfl ?_
  first | refine bq_ifb_ne (t := 10) (q := 8) G dX9_bores_5 (by decide) rfl (fun c5 => ?_) (fun c5 => ?_) | refine bq_if_ne (t := 10) (q := 8) G dX9_bores_5 (by decide) rfl (fun c5 => ?_) (fun c5 => ?_)
  · obtain ⟨k, hk, rfl, h51⟩ := gs_th_ex (S := I 79) c5
    refine bq_aload_n (q := 11) G rfl dX9_bores_10 rfl ?_
    refine bq_getr (q := 14) G dX9_bores_11 rfl fl_X9_19 (by first | assumption | exact ⟨Nat.le_of_ble_eq_true rfl, rfl⟩) (fun _ _ _ => rfl) (rf_75_5 z) ?_
    refine bq_bipush (q := 16) (v := 35) G (by decide) dX9_bores_14 rfl ?_
    refine bq_iload_n (q := 17) G rfl dX9_bores_16 rfl ?_
    refine bq_iadd (q := 18) G dX9_bores_17 rfl ?_
    refine bq_iald (q := 19) G dX9_bores_18 rfl (by first | assumption | exact ⟨Nat.le_of_ble_eq_true rfl, rfl⟩) (bq_ixa (a := 35) rfl (by first | with_reducible assumption | with_reducible exact rfl | exact rfl)) (by first | with_reducible assumption | omega | decide) (by decide) ?_
    refine bq_iconst (q := 20) (v := 1) G (by decide) dX9_bores_19 rfl ?_
    refine bq_icmp_ne (t := 26) (q := 23) G dX9_bores_20 (by decide) rfl (fun c20 => ?_) (fun c20 => ?_)
    · refine bq_aload_n (q := 27) G rfl dX9_bores_26 rfl ?_
      refine bq_callv (q := 30) G dX9_bores_27 rfl cl_X9_117 (c_keeps hp hp8) rfl (by first | assumption | exact ⟨Nat.le_of_ble_eq_true rfl, rfl⟩) rfl ⟨Nat.le_of_ble_eq_true rfl, Nat.le_of_ble_eq_true rfl⟩ (Nat.le_of_ble_eq_true rfl) ⟨Nat.le_of_ble_eq_true rfl, Nat.le_of_ble_eq_true rfl⟩ rfl ?_
      have e := gs_KP79 I p
      have m := gs_mP.kp I p
      generalize gs_KP I p = K at e m ⊢
      refine bq_aload_n (q := 31) G rfl dX9_bores_30 rfl ?_
      refine bq_getr (q := 34) G dX9_bores_31 rfl fl_X9_19 (by first | assumption | exact ⟨Nat.le_of_ble_eq_true rfl, rfl⟩) (fun _ _ _ => rfl) (rf_75_5 z) ?_
      refine bq_bipush (q := 36) (v := 35) G (by decide) dX9_bores_34 rfl ?_
      refine bq_iload_n (q := 37) G rfl dX9_bores_36 rfl ?_
      refine bq_iadd (q := 38) G dX9_bores_37 rfl ?_
      refine bq_iconst (q := 39) (v := 1) G (by decide) dX9_bores_38 rfl ?_
      refine bq_iast (q := 40) G dX9_bores_39 rfl (by first | assumption | exact ⟨Nat.le_of_ble_eq_true rfl, rfl⟩) (bq_ixa (a := 35) rfl (by first | with_reducible assumption | with_reducible exact rfl | exact rfl)) (by first | with_reducible assumption | omega | decide) (by decide) ?_
      refine bq_aload_n (q := 41) G rfl dX9_bores_40 rfl ?_
      refine bq_getr (q := 44) G dX9_bores_41 rfl fl_X9_19 (by first | assumption | exact ⟨Nat.le_of_ble_eq_true rfl, rfl⟩) (fun _ _ _ => rfl) (rf_75_5 z) ?_
      refine bq_iconst (q := 45) (v := 3) G (by decide) dX9_bores_44 rfl ?_
      refine bq_iload_n (q := 46) G rfl dX9_bores_45 rfl ?_
      refine bq_iadd (q := 47) G dX9_bores_46 rfl ?_
      refine bq_iald (q := 48) G dX9_bores_47 rfl (by first | assumption | exact ⟨Nat.le_of_ble_eq_true rfl, rfl⟩) (bq_ixa (a := 3) rfl (by first | with_reducible assumption | with_reducible exact rfl | exact rfl)) (by first | with_reducible assumption | omega | decide) (by decide) ?_
      refine hret _ _ _ _ _ dX9_bores_48 ⟨Or.inr ⟨k, hk, rfl, h51, Or.inr ⟨c20, ?_, ?_⟩⟩, rfl⟩
      · rw [bq_sr_s, pk_un (by omega), e]
      · rw [e]; exact m.put
    · refine bq_bipush (q := 25) (v := -2) G (by decide) dX9_bores_23 rfl ?_
      exact hret _ _ _ _ _ dX9_bores_25 ⟨Or.inr ⟨k, hk, rfl, h51, Or.inl ⟨c20, rfl, rfl⟩⟩, rfl⟩
  · refine bq_iconst (q := 9) (v := -1) G (by decide) dX9_bores_8 rfl ?_
    exact hret _ _ _ _ _ dX9_bores_9 ⟨Or.inl ⟨c5, rfl, rfl⟩, rfl⟩
set_option maxHeartbeats 1000000 in
set_option maxRecDepth 100000 in
theorem c_X9_burns {z : Nat} {I : bq_IR} {L : bq_LR} {b : Int32} {p : Nat} (hp : I 75 7 = nI p) (hp8 : p ≤ 8) : bq_FI MX9_burns z [.ref (z + 75), .int b] 85 (bq_Rf z) I L (fun r J L' => ((¬ ((0 ≤ b ∧ b ≤ 7) ∧ I 79 (51 + b.toNatClampNeg) = 1) ∧ r = -1 ∧ J = I) ∨ ∃ k : Nat, k < 8 ∧ b = nI k ∧ I 79 (51 + k) = 1 ∧ ((I 79 (43 + k) = 1 ∧ r = -2 ∧ J = I) ∨ (¬ I 79 (43 + k) = 1 ∧ r = gs_on (gs_orb (upd (I 79) (51 + k) 0) 8) 8 ∧ gs_mP I p (upd (I 79) (51 + k) 0) J))) ∧ L' = L) := by
  refine bq_FIof [some (.ref (z + 75)), some (.int b)] rfl (Nat.le_of_ble_eq_true rfl) (by decide) rfl (fun _ _ _ _ => rfl) ?_
  intro A G hret
  have G : bq_Cx cX9_burns RX9 2 z (bq_rm MX9_burns 0 0) "burns" A := G
  refine bq_aload_n (q := 1) G rfl dX9_burns_0 rfl ?_
  refine bq_iload_n (q := 2) G rfl dX9_burns_1 rfl ?_
  refine bq_callv (q := 5) G dX9_burns_2 rfl cl_X9_129 (c_X9_isThere) rfl (by first | assumption | exact ⟨Nat.le_of_ble_eq_true rfl, rfl⟩) rfl ⟨Nat.le_of_ble_eq_true rfl, Nat.le_of_ble_eq_true rfl⟩ (Nat.le_of_ble_eq_true rfl) ⟨Nat.le_of_ble_eq_true rfl, Nat.le_of_ble_eq_true rfl⟩ rfl ?_
  first | refine bq_ifb_ne (t := 10) (q := 8) G dX9_burns_5 (by decide) rfl (fun c5 => ?_) (fun c5 => ?_) | refine bq_if_ne (t := 10) (q := 8) G dX9_burns_5 (by decide) rfl (fun c5 => ?_) (fun c5 => ?_)
  · obtain ⟨k, hk, rfl, h51⟩ := gs_th_ex (S := I 79) c5
    refine bq_aload_n (q := 11) G rfl dX9_burns_10 rfl ?_
    refine bq_getr (q := 14) G dX9_burns_11 rfl fl_X9_19 (by first | assumption | exact ⟨Nat.le_of_ble_eq_true rfl, rfl⟩) (fun _ _ _ => rfl) (rf_75_5 z) ?_
    refine bq_bipush (q := 16) (v := 43) G (by decide) dX9_burns_14 rfl ?_
    refine bq_iload_n (q := 17) G rfl dX9_burns_16 rfl ?_
    refine bq_iadd (q := 18) G dX9_burns_17 rfl ?_
    refine bq_iald (q := 19) G dX9_burns_18 rfl (by first | assumption | exact ⟨Nat.le_of_ble_eq_true rfl, rfl⟩) (bq_ixa (a := 43) rfl (by first | with_reducible assumption | with_reducible exact rfl | exact rfl)) (by first | with_reducible assumption | omega | decide) (by decide) ?_
    refine bq_iconst (q := 20) (v := 1) G (by decide) dX9_burns_19 rfl ?_
    refine bq_icmp_ne (t := 26) (q := 23) G dX9_burns_20 (by decide) rfl (fun c20 => ?_) (fun c20 => ?_)
    · refine bq_aload_n (q := 27) G rfl dX9_burns_26 rfl ?_
      refine bq_callv (q := 30) G dX9_burns_27 rfl cl_X9_117 (c_keeps hp hp8) rfl (by first | assumption | exact ⟨Nat.le_of_ble_eq_true rfl, rfl⟩) rfl ⟨Nat.le_of_ble_eq_true rfl, Nat.le_of_ble_eq_true rfl⟩ (Nat.le_of_ble_eq_true rfl) ⟨Nat.le_of_ble_eq_true rfl, Nat.le_of_ble_eq_true rfl⟩ rfl ?_
      have e := gs_KP79 I p
      have m := gs_mP.kp I p
      generalize gs_KP I p = K at e m ⊢
      refine bq_aload_n (q := 31) G rfl dX9_burns_30 rfl ?_
      refine bq_getr (q := 34) G dX9_burns_31 rfl fl_X9_19 (by first | assumption | exact ⟨Nat.le_of_ble_eq_true rfl, rfl⟩) (fun _ _ _ => rfl) (rf_75_5 z) ?_
      refine bq_bipush (q := 36) (v := 51) G (by decide) dX9_burns_34 rfl ?_
      refine bq_iload_n (q := 37) G rfl dX9_burns_36 rfl ?_
      refine bq_iadd (q := 38) G dX9_burns_37 rfl ?_
      refine bq_iconst (q := 39) (v := 0) G (by decide) dX9_burns_38 rfl ?_
      refine bq_iast (q := 40) G dX9_burns_39 rfl (by first | assumption | exact ⟨Nat.le_of_ble_eq_true rfl, rfl⟩) (bq_ixa (a := 51) rfl (by first | with_reducible assumption | with_reducible exact rfl | exact rfl)) (by first | with_reducible assumption | omega | decide) (by decide) ?_
      refine bq_aload_n (q := 41) G rfl dX9_burns_40 rfl ?_
      refine bq_callv (q := 44) G dX9_burns_41 rfl cl_X9_101 (c_X9_there) rfl (by first | assumption | exact ⟨Nat.le_of_ble_eq_true rfl, rfl⟩) rfl ⟨Nat.le_of_ble_eq_true rfl, Nat.le_of_ble_eq_true rfl⟩ (Nat.le_of_ble_eq_true rfl) ⟨Nat.le_of_ble_eq_true rfl, Nat.le_of_ble_eq_true rfl⟩ rfl ?_
      refine bq_calls (q := 47) G dX9_burns_44 rfl cl_X9_138 (c_X9_ones) rfl rfl ⟨Nat.le_of_ble_eq_true rfl, Nat.le_of_ble_eq_true rfl⟩ (Nat.le_of_ble_eq_true rfl) ⟨Nat.le_of_ble_eq_true rfl, Nat.le_of_ble_eq_true rfl⟩ rfl ?_
      refine hret _ _ _ _ _ dX9_burns_47 ⟨Or.inr ⟨k, hk, rfl, h51, Or.inr ⟨c20, ?_, ?_⟩⟩, rfl⟩
      · rw [bq_sr_s, e]
      · rw [e]; exact m.put
    · refine bq_bipush (q := 25) (v := -2) G (by decide) dX9_burns_23 rfl ?_
      exact hret _ _ _ _ _ dX9_burns_25 ⟨Or.inr ⟨k, hk, rfl, h51, Or.inl ⟨c20, rfl, rfl⟩⟩, rfl⟩
  · refine bq_iconst (q := 9) (v := -1) G (by decide) dX9_burns_8 rfl ?_
    exact hret _ _ _ _ _ dX9_burns_9 ⟨Or.inl ⟨c5, rfl, rfl⟩, rfl⟩
set_option maxHeartbeats 1000000 in
set_option maxRecDepth 100000 in
theorem c_X9_halts {z : Nat} {I : bq_IR} {L : bq_LR} {b : Int32} {p : Nat} (hp : I 75 7 = nI p) (hp8 : p ≤ 8) : bq_FI MX9_halts z [.ref (z + 75), .int b] 85 (bq_Rf z) I L (fun r J L' => ((¬ ((0 ≤ b ∧ b ≤ 7) ∧ I 79 (51 + b.toNatClampNeg) = 1) ∧ r = -1 ∧ J = I) ∨ ∃ k : Nat, k < 8 ∧ b = nI k ∧ I 79 (51 + k) = 1 ∧ (r = gs_on (gs_orb (upd (I 79) (51 + k) 0) 8) 8 ∧ gs_mP I p (upd (I 79) (51 + k) 0) J)) ∧ L' = L) := by
  refine bq_FIof [some (.ref (z + 75)), some (.int b)] rfl (Nat.le_of_ble_eq_true rfl) (by decide) rfl (fun _ _ _ _ => rfl) ?_
  intro A G hret
  have G : bq_Cx cX9_halts RX9 2 z (bq_rm MX9_halts 0 0) "halts" A := G
  refine bq_aload_n (q := 1) G rfl dX9_halts_0 rfl ?_
  refine bq_iload_n (q := 2) G rfl dX9_halts_1 rfl ?_
  refine bq_callv (q := 5) G dX9_halts_2 rfl cl_X9_129 (c_X9_isThere) rfl (by first | assumption | exact ⟨Nat.le_of_ble_eq_true rfl, rfl⟩) rfl ⟨Nat.le_of_ble_eq_true rfl, Nat.le_of_ble_eq_true rfl⟩ (Nat.le_of_ble_eq_true rfl) ⟨Nat.le_of_ble_eq_true rfl, Nat.le_of_ble_eq_true rfl⟩ rfl ?_
  first | refine bq_ifb_ne (t := 10) (q := 8) G dX9_halts_5 (by decide) rfl (fun c5 => ?_) (fun c5 => ?_) | refine bq_if_ne (t := 10) (q := 8) G dX9_halts_5 (by decide) rfl (fun c5 => ?_) (fun c5 => ?_)
  · obtain ⟨k, hk, rfl, h51⟩ := gs_th_ex (S := I 79) c5
    refine bq_aload_n (q := 11) G rfl dX9_halts_10 rfl ?_
    refine bq_callv (q := 14) G dX9_halts_11 rfl cl_X9_117 (c_keeps hp hp8) rfl (by first | assumption | exact ⟨Nat.le_of_ble_eq_true rfl, rfl⟩) rfl ⟨Nat.le_of_ble_eq_true rfl, Nat.le_of_ble_eq_true rfl⟩ (Nat.le_of_ble_eq_true rfl) ⟨Nat.le_of_ble_eq_true rfl, Nat.le_of_ble_eq_true rfl⟩ rfl ?_
    have e := gs_KP79 I p
    have m := gs_mP.kp I p
    generalize gs_KP I p = K at e m ⊢
    refine bq_aload_n (q := 15) G rfl dX9_halts_14 rfl ?_
    refine bq_getr (q := 18) G dX9_halts_15 rfl fl_X9_19 (by first | assumption | exact ⟨Nat.le_of_ble_eq_true rfl, rfl⟩) (fun _ _ _ => rfl) (rf_75_5 z) ?_
    refine bq_bipush (q := 20) (v := 51) G (by decide) dX9_halts_18 rfl ?_
    refine bq_iload_n (q := 21) G rfl dX9_halts_20 rfl ?_
    refine bq_iadd (q := 22) G dX9_halts_21 rfl ?_
    refine bq_iconst (q := 23) (v := 0) G (by decide) dX9_halts_22 rfl ?_
    refine bq_iast (q := 24) G dX9_halts_23 rfl (by first | assumption | exact ⟨Nat.le_of_ble_eq_true rfl, rfl⟩) (bq_ixa (a := 51) rfl (by first | with_reducible assumption | with_reducible exact rfl | exact rfl)) (by first | with_reducible assumption | omega | decide) (by decide) ?_
    refine bq_aload_n (q := 25) G rfl dX9_halts_24 rfl ?_
    refine bq_callv (q := 28) G dX9_halts_25 rfl cl_X9_101 (c_X9_there) rfl (by first | assumption | exact ⟨Nat.le_of_ble_eq_true rfl, rfl⟩) rfl ⟨Nat.le_of_ble_eq_true rfl, Nat.le_of_ble_eq_true rfl⟩ (Nat.le_of_ble_eq_true rfl) ⟨Nat.le_of_ble_eq_true rfl, Nat.le_of_ble_eq_true rfl⟩ rfl ?_
    refine bq_calls (q := 31) G dX9_halts_28 rfl cl_X9_138 (c_X9_ones) rfl rfl ⟨Nat.le_of_ble_eq_true rfl, Nat.le_of_ble_eq_true rfl⟩ (Nat.le_of_ble_eq_true rfl) ⟨Nat.le_of_ble_eq_true rfl, Nat.le_of_ble_eq_true rfl⟩ rfl ?_
    refine hret _ _ _ _ _ dX9_halts_31 ⟨Or.inr ⟨k, hk, rfl, h51, ?_, ?_⟩, rfl⟩
    · rw [bq_sr_s, e]
    · rw [e]; exact m.put
  · refine bq_iconst (q := 9) (v := -1) G (by decide) dX9_halts_8 rfl ?_
    exact hret _ _ _ _ _ dX9_halts_9 ⟨Or.inl ⟨c5, rfl, rfl⟩, rfl⟩
set_option maxHeartbeats 1000000 in
set_option maxRecDepth 100000 in
theorem c_X9_undo {z : Nat} {I : bq_IR} {L : bq_LR} {p : Nat} (hp : I 75 7 = nI p) (hp8 : p ≤ 8) : bq_FI MX9_undo z [.ref (z + 75)] 85 (bq_Rf z) I L (fun r J L' => ((p = 0 ∧ r = -2 ∧ J = I) ∨ (∃ q : Nat, p = q + 1 ∧ r = nI q ∧ J = bq_sr (bq_sr I 75 (upd (I 75) 7 (nI q))) 79 (gs_cp 59 (fun j => I 80 (59 * q + j)) (I 79)))) ∧ L' = L) := by
  refine bq_FIof [some (.ref (z + 75)), none] rfl (Nat.le_of_ble_eq_true rfl) (by decide) rfl (fun _ _ _ _ => rfl) ?_
  intro A G hret
  have G : bq_Cx cX9_undo RX9 2 z (bq_rm MX9_undo 0 0) "undo" A := G
  refine bq_aload_n (q := 1) G rfl dX9_undo_0 rfl ?_
  refine bq_geti (q := 4) G dX9_undo_1 rfl fl_X9_95 (by first | assumption | exact ⟨Nat.le_of_ble_eq_true rfl, rfl⟩) rfl ?_
  first | refine bq_ifb_ne (t := 10) (q := 7) G dX9_undo_4 (by decide) rfl (fun c4 => ?_) (fun c4 => ?_) | refine bq_if_ne (t := 10) (q := 7) G dX9_undo_4 (by decide) rfl (fun c4 => ?_) (fun c4 => ?_)
  · have hp0 : ¬ p = 0 := fun e => c4 (by rw [hp, e]; rfl)
    obtain ⟨q, rfl⟩ : ∃ q, p = q + 1 := ⟨p - 1, by omega⟩
    have hq : I 75 7 - 1 = nI q := by rw [hp]; exact nI_pred q
    have loop : ∀ k, k ≤ 59 → A 0 0 22 [some (.ref (z + 75)), some (.int (nI k))] [] 85 (bq_Rf z) (bq_sr (bq_sr I 75 (upd (I 75) 7 (nI q))) 79 (gs_cp k (fun j => I 80 (59 * q + j)) (I 79))) L := by
      refine bq_down 59 ?_
      intro k hk ih
      have e7 : ∀ f : Nat → Int32, bq_sr (bq_sr I 75 (upd (I 75) 7 (nI q))) 79 f 75 7 = nI q := fun f => by rw [bq_sr_n (by decide), bq_sr_s, pk_us]
      rcases Nat.lt_or_ge k 59 with hk8 | hk8
      · refine bq_iload_n (q := 23) G rfl dX9_undo_22 rfl ?_
        refine bq_bipush (q := 25) (v := 59) G (by decide) dX9_undo_23 rfl ?_
        refine bq_icmp_ge_f (q := 28) (t := 54) G dX9_undo_25 rfl (by decide) (nI_ge (a := k) (b := 59) hk8 (by decide)) ?_
        refine bq_aload_n (q := 29) G rfl dX9_undo_28 rfl ?_
        refine bq_getr (q := 32) G dX9_undo_29 rfl fl_X9_19 (by first | assumption | exact ⟨Nat.le_of_ble_eq_true rfl, rfl⟩) (fun _ _ _ => rfl) (rf_75_5 z) ?_
        refine bq_iload_n (q := 33) G rfl dX9_undo_32 rfl ?_
        refine bq_aload_n (q := 34) G rfl dX9_undo_33 rfl ?_
        refine bq_getr (q := 37) G dX9_undo_34 rfl fl_X9_22 (by first | assumption | exact ⟨Nat.le_of_ble_eq_true rfl, rfl⟩) (fun _ _ _ => rfl) (rf_75_6 z) ?_
        refine bq_bipush (q := 39) (v := 59) G (by decide) dX9_undo_37 rfl ?_
        refine bq_aload_n (q := 40) G rfl dX9_undo_39 rfl ?_
        refine bq_geti (q := 43) G dX9_undo_40 rfl fl_X9_95 (by first | assumption | exact ⟨Nat.le_of_ble_eq_true rfl, rfl⟩) rfl ?_
        refine bq_imul (q := 44) G dX9_undo_43 rfl ?_
        refine bq_iload_n (q := 45) G rfl dX9_undo_44 rfl ?_
        refine bq_iadd (q := 46) G dX9_undo_45 rfl ?_
        refine bq_iald (q := 47) (b := 59 * q + k) G dX9_undo_46 rfl (by first | assumption | exact ⟨Nat.le_of_ble_eq_true rfl, rfl⟩) (bq_ixa (bq_ixm (a := 59) rfl (e7 _)) rfl) (by first | with_reducible assumption | omega | decide) (by decide) ?_
        refine bq_iast (q := 48) G dX9_undo_47 rfl (by first | assumption | exact ⟨Nat.le_of_ble_eq_true rfl, rfl⟩) (by first | with_reducible assumption | with_reducible exact rfl | exact bq_ixa rfl (by with_reducible assumption) | exact rfl | exact bq_ixa rfl rfl | exact bq_ixa (by with_reducible assumption) rfl | exact bq_ixa rfl (bq_ixa (by first | rfl | with_reducible assumption) (by first | rfl | with_reducible assumption))) (by first | with_reducible assumption | omega | decide) (by decide) ?_
        refine bq_iinc (q := 51) (ls' := [_, _]) G dX9_undo_48 rfl rfl (by first | exact nI_1 _ | exact pk_m1 _ | rfl) (by decide) rfl rfl ?_
        refine bq_goto (q := 22) G dX9_undo_51 (by decide) ?_
        refine bq_I ?_ (ih hk8)
        rw [gs_cp_s, bq_sr_sr, bq_sr_s, bq_sr_n (show (80 : Nat) ≠ 79 by decide), bq_sr_n (show (80 : Nat) ≠ 75 by decide)]
      · have hk9 : k = 59 := by omega
        subst hk9
        refine bq_iload_n (q := 23) G rfl dX9_undo_22 rfl ?_
        refine bq_bipush (q := 25) (v := 59) G (by decide) dX9_undo_23 rfl ?_
        refine bq_icmp_ge_t (t := 54) G dX9_undo_25 (by decide) (nI_le (a := 59) (b := 59) (by omega) (by decide)) ?_
        refine bq_aload_n (q := 55) G rfl dX9_undo_54 rfl ?_
        refine bq_geti (q := 58) G dX9_undo_55 rfl fl_X9_95 (by first | assumption | exact ⟨Nat.le_of_ble_eq_true rfl, rfl⟩) rfl ?_
        exact hret _ _ _ _ _ dX9_undo_58 ⟨Or.inr ⟨q, rfl, e7 _, rfl⟩, rfl⟩
    refine bq_aload_n (q := 11) G rfl dX9_undo_10 rfl ?_
    refine bq_dup (q := 12) G rfl dX9_undo_11 rfl ?_
    refine bq_geti (q := 15) G dX9_undo_12 rfl fl_X9_95 (by first | assumption | exact ⟨Nat.le_of_ble_eq_true rfl, rfl⟩) rfl ?_
    refine bq_iconst (q := 16) (v := 1) G (by decide) dX9_undo_15 rfl ?_
    refine bq_isub (q := 17) G dX9_undo_16 rfl ?_
    refine bq_puti (q := 20) G dX9_undo_17 rfl fl_X9_95 (by first | assumption | exact ⟨Nat.le_of_ble_eq_true rfl, rfl⟩) rfl rfl ?_
    refine bq_iconst (q := 21) (v := 0) G (by decide) dX9_undo_20 rfl ?_
    refine bq_istore_n (q := 22) (ls' := [_, _]) G dX9_undo_21 rfl (by decide) rfl rfl ?_
    refine bq_I ?_ (loop 0 (by omega))
    rw [gs_cp_0, hq]
    have : bq_sr I 75 (upd (I 75) 7 (nI q)) 79 = I 79 := bq_sr_n (by decide)
    rw [← this, bq_sr_id]
  · have hp0 : p = 0 := by
      rw [hp] at c4
      exact (nI_eq (a := p) (b := 0) (by omega) (by decide)).mp c4
    refine bq_bipush (q := 9) (v := -2) G (by decide) dX9_undo_7 rfl ?_
    exact hret _ _ _ _ _ dX9_undo_9 ⟨Or.inl ⟨hp0, rfl, rfl⟩, rfl⟩
set_option maxHeartbeats 1000000 in
set_option maxRecDepth 100000 in
theorem c_X9_keep {z : Nat} {I : bq_IR} {L : bq_LR} {b : Int32}  : bq_FI MX9_keep z [.ref (z + 75), .int b] 85 (bq_Rf z) I L (fun r J L' => ((¬ (0 ≤ b ∧ b ≤ 1) ∧ r = -1 ∧ J = I) ∨ (∃ i : Nat, i < 2 ∧ b = nI i ∧ r = I 79 0 ∧ J = bq_sr (bq_sr I 81 (gs_co (59 * i) 59 (I 79) (I 81))) 82 (upd (I 82) i 1))) ∧ L' = L) := by
  refine bq_FIof [some (.ref (z + 75)), some (.int b), none] rfl (Nat.le_of_ble_eq_true rfl) (by decide) rfl (fun _ _ _ _ => rfl) ?_
  intro A G hret
  have G : bq_Cx cX9_keep RX9 3 z (bq_rm MX9_keep 0 0) "keep" A := G
  refine bq_iload_n (q := 1) G rfl dX9_keep_0 rfl ?_
  refine bq_iconst (q := 2) (v := 0) G (by decide) dX9_keep_1 rfl ?_
  refine bq_iconst (q := 3) (v := 1) G (by decide) dX9_keep_2 rfl ?_
  refine bq_calls (q := 6) G dX9_keep_3 rfl cl_X9_45 (c_X9_in) rfl rfl ⟨Nat.le_of_ble_eq_true rfl, Nat.le_of_ble_eq_true rfl⟩ (Nat.le_of_ble_eq_true rfl) ⟨Nat.le_of_ble_eq_true rfl, Nat.le_of_ble_eq_true rfl⟩ rfl ?_
  first | refine bq_ifb_ne (t := 11) (q := 9) G dX9_keep_6 (by decide) rfl (fun c6 => ?_) (fun c6 => ?_) | refine bq_if_ne (t := 11) (q := 9) G dX9_keep_6 (by decide) rfl (fun c6 => ?_) (fun c6 => ?_)
  · obtain ⟨i, hi, rfl⟩ := gs_rng (M := 1) (k := 1) (by decide) c6
    have loop : ∀ k, k ≤ 59 → A 0 0 13 [some (.ref (z + 75)), some (.int (nI i)), some (.int (nI k))] [] 85 (bq_Rf z) (bq_sr I 81 (gs_co (59 * i) k (I 79) (I 81))) L := by
      refine bq_down 59 ?_
      intro k hk ih
      rcases Nat.lt_or_ge k 59 with hk8 | hk8
      · refine bq_iload_n (q := 14) G rfl dX9_keep_13 rfl ?_
        refine bq_bipush (q := 16) (v := 59) G (by decide) dX9_keep_14 rfl ?_
        refine bq_icmp_ge_f (q := 19) (t := 42) G dX9_keep_16 rfl (by decide) (nI_ge (a := k) (b := 59) hk8 (by decide)) ?_
        refine bq_aload_n (q := 20) G rfl dX9_keep_19 rfl ?_
        refine bq_getr (q := 23) G dX9_keep_20 rfl fl_X9_25 (by first | assumption | exact ⟨Nat.le_of_ble_eq_true rfl, rfl⟩) (fun _ _ _ => rfl) (rf_75_8 z) ?_
        refine bq_bipush (q := 25) (v := 59) G (by decide) dX9_keep_23 rfl ?_
        refine bq_iload_n (q := 26) G rfl dX9_keep_25 rfl ?_
        refine bq_imul (q := 27) G dX9_keep_26 rfl ?_
        refine bq_iload_n (q := 28) G rfl dX9_keep_27 rfl ?_
        refine bq_iadd (q := 29) G dX9_keep_28 rfl ?_
        refine bq_aload_n (q := 30) G rfl dX9_keep_29 rfl ?_
        refine bq_getr (q := 33) G dX9_keep_30 rfl fl_X9_19 (by first | assumption | exact ⟨Nat.le_of_ble_eq_true rfl, rfl⟩) (fun _ _ _ => rfl) (rf_75_5 z) ?_
        refine bq_iload_n (q := 34) G rfl dX9_keep_33 rfl ?_
        refine bq_iald (q := 35) G dX9_keep_34 rfl (by first | assumption | exact ⟨Nat.le_of_ble_eq_true rfl, rfl⟩) (by first | with_reducible assumption | with_reducible exact rfl | exact bq_ixa rfl (by with_reducible assumption) | exact rfl | exact bq_ixa rfl rfl | exact bq_ixa (by with_reducible assumption) rfl | exact bq_ixa rfl (bq_ixa (by first | rfl | with_reducible assumption) (by first | rfl | with_reducible assumption))) (by first | with_reducible assumption | omega | decide) (by decide) ?_
        refine bq_iast (q := 36) (b := 59 * i + k) G dX9_keep_35 rfl (by first | assumption | exact ⟨Nat.le_of_ble_eq_true rfl, rfl⟩) (bq_ixa (bq_ixm (a := 59) rfl rfl) rfl) (by first | with_reducible assumption | omega | decide) (by decide) ?_
        refine bq_iinc (q := 39) (ls' := [_, _, _]) G dX9_keep_36 rfl rfl (by first | exact nI_1 _ | exact pk_m1 _ | rfl) (by decide) rfl rfl ?_
        refine bq_goto (q := 13) G dX9_keep_39 (by decide) ?_
        refine bq_I ?_ (ih hk8)
        rw [gs_co_s, bq_sr_sr, bq_sr_s, bq_sr_n (show (79 : Nat) ≠ 81 by decide)]
      · have hk9 : k = 59 := by omega
        subst hk9
        refine bq_iload_n (q := 14) G rfl dX9_keep_13 rfl ?_
        refine bq_bipush (q := 16) (v := 59) G (by decide) dX9_keep_14 rfl ?_
        refine bq_icmp_ge_t (t := 42) G dX9_keep_16 (by decide) (nI_le (a := 59) (b := 59) (by omega) (by decide)) ?_
        refine bq_aload_n (q := 43) G rfl dX9_keep_42 rfl ?_
        refine bq_getr (q := 46) G dX9_keep_43 rfl fl_X9_28 (by first | assumption | exact ⟨Nat.le_of_ble_eq_true rfl, rfl⟩) (fun _ _ _ => rfl) (rf_75_9 z) ?_
        refine bq_iload_n (q := 47) G rfl dX9_keep_46 rfl ?_
        refine bq_iconst (q := 48) (v := 1) G (by decide) dX9_keep_47 rfl ?_
        refine bq_zast (q := 49) (b := i) G dX9_keep_48 rfl (by first | assumption | exact ⟨Nat.le_of_ble_eq_true rfl, rfl⟩) (by first | with_reducible assumption | with_reducible exact rfl | exact bq_ixa rfl (by with_reducible assumption) | exact rfl | exact bq_ixa rfl rfl | exact bq_ixa (by with_reducible assumption) rfl | exact bq_ixa rfl (bq_ixa (by first | rfl | with_reducible assumption) (by first | rfl | with_reducible assumption))) (by first | with_reducible assumption | omega | decide) (by decide) ⟨rfl, rfl⟩ ?_
        refine bq_aload_n (q := 50) G rfl dX9_keep_49 rfl ?_
        refine bq_getr (q := 53) G dX9_keep_50 rfl fl_X9_19 (by first | assumption | exact ⟨Nat.le_of_ble_eq_true rfl, rfl⟩) (fun _ _ _ => rfl) (rf_75_5 z) ?_
        refine bq_iconst (q := 54) (v := 0) G (by decide) dX9_keep_53 rfl ?_
        refine bq_iald (q := 55) (b := 0) G dX9_keep_54 rfl (by first | assumption | exact ⟨Nat.le_of_ble_eq_true rfl, rfl⟩) rfl (by first | with_reducible assumption | omega | decide) (by decide) ?_
        refine hret _ _ _ _ _ dX9_keep_55 ⟨Or.inr ⟨i, by omega, rfl, ?_, ?_⟩, rfl⟩
        · rw [bq_sr_n (by decide), bq_sr_n (by decide)]
        · rw [bq_sr_n (show (82 : Nat) ≠ 81 by decide)]
    refine bq_iconst (q := 12) (v := 0) G (by decide) dX9_keep_11 rfl ?_
    refine bq_istore_n (q := 13) (ls' := [_, _, _]) G dX9_keep_12 rfl (by decide) rfl rfl ?_
    refine bq_I ?_ (loop 0 (by omega))
    rw [gs_co_0, bq_sr_id]
  · refine bq_iconst (q := 10) (v := -1) G (by decide) dX9_keep_9 rfl ?_
    exact hret _ _ _ _ _ dX9_keep_10 ⟨Or.inl ⟨c6, rfl, rfl⟩, rfl⟩
set_option maxHeartbeats 1000000 in
set_option maxRecDepth 100000 in
theorem c_X9_back {z : Nat} {I : bq_IR} {L : bq_LR} {b : Int32}  : bq_FI MX9_back z [.ref (z + 75), .int b] 85 (bq_Rf z) I L (fun r J L' => ((¬ (0 ≤ b ∧ b ≤ 1) ∧ r = -1 ∧ J = I) ∨ (∃ i : Nat, i < 2 ∧ b = nI i ∧ ((I 82 i = 0 ∧ r = -2 ∧ J = I) ∨ (¬ I 82 i = 0 ∧ r = I 81 (59 * i) ∧ J = bq_sr (bq_sr I 79 (gs_cp 59 (fun j => I 81 (59 * i + j)) (I 79))) 75 (upd (I 75) 7 0))))) ∧ L' = L) := by
  refine bq_FIof [some (.ref (z + 75)), some (.int b), none] rfl (Nat.le_of_ble_eq_true rfl) (by decide) rfl (fun _ _ _ _ => rfl) ?_
  intro A G hret
  have G : bq_Cx cX9_back RX9 3 z (bq_rm MX9_back 0 0) "back" A := G
  refine bq_iload_n (q := 1) G rfl dX9_back_0 rfl ?_
  refine bq_iconst (q := 2) (v := 0) G (by decide) dX9_back_1 rfl ?_
  refine bq_iconst (q := 3) (v := 1) G (by decide) dX9_back_2 rfl ?_
  refine bq_calls (q := 6) G dX9_back_3 rfl cl_X9_45 (c_X9_in) rfl rfl ⟨Nat.le_of_ble_eq_true rfl, Nat.le_of_ble_eq_true rfl⟩ (Nat.le_of_ble_eq_true rfl) ⟨Nat.le_of_ble_eq_true rfl, Nat.le_of_ble_eq_true rfl⟩ rfl ?_
  first | refine bq_ifb_ne (t := 11) (q := 9) G dX9_back_6 (by decide) rfl (fun c6 => ?_) (fun c6 => ?_) | refine bq_if_ne (t := 11) (q := 9) G dX9_back_6 (by decide) rfl (fun c6 => ?_) (fun c6 => ?_)
  · obtain ⟨i, hi, rfl⟩ := gs_rng (M := 1) (k := 1) (by decide) c6
    refine bq_aload_n (q := 12) G rfl dX9_back_11 rfl ?_
    refine bq_getr (q := 15) G dX9_back_12 rfl fl_X9_28 (by first | assumption | exact ⟨Nat.le_of_ble_eq_true rfl, rfl⟩) (fun _ _ _ => rfl) (rf_75_9 z) ?_
    refine bq_iload_n (q := 16) G rfl dX9_back_15 rfl ?_
    refine bq_zald (q := 17) (b := i) G dX9_back_16 rfl (by first | assumption | exact ⟨Nat.le_of_ble_eq_true rfl, rfl⟩) (by first | with_reducible assumption | with_reducible exact rfl | exact bq_ixa rfl (by with_reducible assumption) | exact rfl | exact bq_ixa rfl rfl | exact bq_ixa (by with_reducible assumption) rfl | exact bq_ixa rfl (bq_ixa (by first | rfl | with_reducible assumption) (by first | rfl | with_reducible assumption))) (by first | with_reducible assumption | omega | decide) (by decide) ?_
    first | refine bq_ifb_ne (t := 23) (q := 20) G dX9_back_17 (by decide) rfl (fun c17 => ?_) (fun c17 => ?_) | refine bq_if_ne (t := 23) (q := 20) G dX9_back_17 (by decide) rfl (fun c17 => ?_) (fun c17 => ?_)
    · have loop : ∀ k, k ≤ 59 → A 0 0 25 [some (.ref (z + 75)), some (.int (nI i)), some (.int (nI k))] [] 85 (bq_Rf z) (bq_sr I 79 (gs_cp k (fun j => I 81 (59 * i + j)) (I 79))) L := by
        refine bq_down 59 ?_
        intro k hk ih
        rcases Nat.lt_or_ge k 59 with hk8 | hk8
        · refine bq_iload_n (q := 26) G rfl dX9_back_25 rfl ?_
          refine bq_bipush (q := 28) (v := 59) G (by decide) dX9_back_26 rfl ?_
          refine bq_icmp_ge_f (q := 31) (t := 54) G dX9_back_28 rfl (by decide) (nI_ge (a := k) (b := 59) hk8 (by decide)) ?_
          refine bq_aload_n (q := 32) G rfl dX9_back_31 rfl ?_
          refine bq_getr (q := 35) G dX9_back_32 rfl fl_X9_19 (by first | assumption | exact ⟨Nat.le_of_ble_eq_true rfl, rfl⟩) (fun _ _ _ => rfl) (rf_75_5 z) ?_
          refine bq_iload_n (q := 36) G rfl dX9_back_35 rfl ?_
          refine bq_aload_n (q := 37) G rfl dX9_back_36 rfl ?_
          refine bq_getr (q := 40) G dX9_back_37 rfl fl_X9_25 (by first | assumption | exact ⟨Nat.le_of_ble_eq_true rfl, rfl⟩) (fun _ _ _ => rfl) (rf_75_8 z) ?_
          refine bq_bipush (q := 42) (v := 59) G (by decide) dX9_back_40 rfl ?_
          refine bq_iload_n (q := 43) G rfl dX9_back_42 rfl ?_
          refine bq_imul (q := 44) G dX9_back_43 rfl ?_
          refine bq_iload_n (q := 45) G rfl dX9_back_44 rfl ?_
          refine bq_iadd (q := 46) G dX9_back_45 rfl ?_
          refine bq_iald (q := 47) (b := 59 * i + k) G dX9_back_46 rfl (by first | assumption | exact ⟨Nat.le_of_ble_eq_true rfl, rfl⟩) (bq_ixa (bq_ixm (a := 59) rfl rfl) rfl) (by first | with_reducible assumption | omega | decide) (by decide) ?_
          refine bq_iast (q := 48) G dX9_back_47 rfl (by first | assumption | exact ⟨Nat.le_of_ble_eq_true rfl, rfl⟩) (by first | with_reducible assumption | with_reducible exact rfl | exact bq_ixa rfl (by with_reducible assumption) | exact rfl | exact bq_ixa rfl rfl | exact bq_ixa (by with_reducible assumption) rfl | exact bq_ixa rfl (bq_ixa (by first | rfl | with_reducible assumption) (by first | rfl | with_reducible assumption))) (by first | with_reducible assumption | omega | decide) (by decide) ?_
          refine bq_iinc (q := 51) (ls' := [_, _, _]) G dX9_back_48 rfl rfl (by first | exact nI_1 _ | exact pk_m1 _ | rfl) (by decide) rfl rfl ?_
          refine bq_goto (q := 25) G dX9_back_51 (by decide) ?_
          refine bq_I ?_ (ih hk8)
          rw [gs_cp_s, bq_sr_sr, bq_sr_s, bq_sr_n (show (81 : Nat) ≠ 79 by decide)]
        · have hk9 : k = 59 := by omega
          subst hk9
          refine bq_iload_n (q := 26) G rfl dX9_back_25 rfl ?_
          refine bq_bipush (q := 28) (v := 59) G (by decide) dX9_back_26 rfl ?_
          refine bq_icmp_ge_t (t := 54) G dX9_back_28 (by decide) (nI_le (a := 59) (b := 59) (by omega) (by decide)) ?_
          refine bq_aload_n (q := 55) G rfl dX9_back_54 rfl ?_
          refine bq_iconst (q := 56) (v := 0) G (by decide) dX9_back_55 rfl ?_
          refine bq_puti (q := 59) G dX9_back_56 rfl fl_X9_95 (by first | assumption | exact ⟨Nat.le_of_ble_eq_true rfl, rfl⟩) rfl rfl ?_
          refine bq_aload_n (q := 60) G rfl dX9_back_59 rfl ?_
          refine bq_getr (q := 63) G dX9_back_60 rfl fl_X9_19 (by first | assumption | exact ⟨Nat.le_of_ble_eq_true rfl, rfl⟩) (fun _ _ _ => rfl) (rf_75_5 z) ?_
          refine bq_iconst (q := 64) (v := 0) G (by decide) dX9_back_63 rfl ?_
          refine bq_iald (q := 65) (b := 0) G dX9_back_64 rfl (by first | assumption | exact ⟨Nat.le_of_ble_eq_true rfl, rfl⟩) rfl (by first | with_reducible assumption | omega | decide) (by decide) ?_
          refine hret _ _ _ _ _ dX9_back_65 ⟨Or.inr ⟨i, by omega, rfl, Or.inr ⟨c17, ?_, ?_⟩⟩, rfl⟩
          · rw [bq_sr_n (by decide), bq_sr_s, gs_cp_lt (by decide)]; rfl
          · rw [bq_sr_n (show (75 : Nat) ≠ 79 by decide)]
      refine bq_iconst (q := 24) (v := 0) G (by decide) dX9_back_23 rfl ?_
      refine bq_istore_n (q := 25) (ls' := [_, _, _]) G dX9_back_24 rfl (by decide) rfl rfl ?_
      refine bq_I ?_ (loop 0 (by omega))
      rw [gs_cp_0, bq_sr_id]
    · refine bq_bipush (q := 22) (v := -2) G (by decide) dX9_back_20 rfl ?_
      exact hret _ _ _ _ _ dX9_back_22 ⟨Or.inr ⟨i, by omega, rfl, Or.inl ⟨c17, rfl, rfl⟩⟩, rfl⟩
  · refine bq_iconst (q := 10) (v := -1) G (by decide) dX9_back_9 rfl ?_
    exact hret _ _ _ _ _ dX9_back_10 ⟨Or.inl ⟨c6, rfl, rfl⟩, rfl⟩
