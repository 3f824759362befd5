set_option maxHeartbeats 1000000 in
set_option maxRecDepth 100000 in
theorem c_X8_minute {z : Nat} {I : bq_IR} {L : bq_LR} {p l : Nat} {T S : Nat → Int32} (hC : gs_CS I T S) (h9 : 0 ≤ S 0 ∧ S 0 ≤ 9999) (hp : I 25 1 = nI p) (hp8 : p ≤ 8) (hl : I 25 2 = nI l) (hl8 : l < 8) : bq_FI MX8_minute z [.ref (z + 0)] 85 (bq_Rf z) I L (fun r J L' => ((S 0 = 9999 ∧ r = -2 ∧ J = I) ∨ (¬ S 0 = 9999 ∧ r = gs_go (T 4) (T 2) (T 1) S 1 / T 1 ∧ gs_cD I p l S (gs_go (T 4) (T 2) (T 1) S) J)) ∧ L' = L) := by
  refine bq_FIof [some (.ref (z + 0)), none] rfl (Nat.le_of_ble_eq_true rfl) (by decide) rfl (fun _ _ _ _ => rfl) ?_
  intro A G hret
  have G : bq_Cx cX8_minute RX8 2 z (bq_rm MX8_minute 0 0) "minute" A := G
  have h0 : I 17 0 = S 0 := hC.2.1.2.1
  refine bq_aload_n (q := 1) G rfl dX8_minute_0 rfl ?_
  refine bq_getr (q := 4) G dX8_minute_1 rfl fl_X8_36 (by first | assumption | exact ⟨Nat.le_of_ble_eq_true rfl, rfl⟩) (fun _ _ _ => rfl) (rf_0_4 z) ?_
  refine bq_geti (q := 7) G dX8_minute_4 rfl fl_X8_135 (by first | assumption | exact ⟨Nat.le_of_ble_eq_true rfl, rfl⟩) rfl ?_
  refine bq_sipush (q := 10) (v := 9999) G (by decide) dX8_minute_7 rfl ?_
  refine bq_icmp_lt (t := 16) (q := 13) G dX8_minute_10 (by decide) rfl (fun c10 => ?_) (fun c10 => ?_)
  · have hlt : ¬ S 0 = 9999 := fun h => by rw [h0, h] at c10; exact absurd c10 (by decide)
    refine bq_aload_n (q := 17) G rfl dX8_minute_16 rfl ?_
    refine bq_getr (q := 20) G dX8_minute_17 rfl fl_X8_46 (by first | assumption | exact ⟨Nat.le_of_ble_eq_true rfl, rfl⟩) (fun _ _ _ => rfl) (rf_0_6 z) ?_
    refine bq_aload_n (q := 21) G rfl dX8_minute_20 rfl ?_
    refine bq_getr (q := 24) G dX8_minute_21 rfl fl_X8_36 (by first | assumption | exact ⟨Nat.le_of_ble_eq_true rfl, rfl⟩) (fun _ _ _ => rfl) (rf_0_4 z) ?_
    refine bq_callvV (q := 27) G dX8_minute_24 rfl cl_X8_148 (c_X6_remember (S := S) (p := p) (l := l) hC.2.1 hp hp8 hl hl8) rfl (by first | assumption | exact ⟨Nat.le_of_ble_eq_true rfl, rfl⟩) rfl ⟨Nat.le_of_ble_eq_true rfl, Nat.le_of_ble_eq_true rfl⟩ (Nat.le_of_ble_eq_true rfl) ⟨Nat.le_of_ble_eq_true rfl, Nat.le_of_ble_eq_true rfl⟩ (fun I24 L24 h24 => ?_)
    obtain ⟨hD, rfl⟩ := h24
    have e4 : I24 (5 + 1) 4 = T 4 := by rw [show I24 (5 + 1) = I 6 from hD.2.2.2 6 (by decide) (by decide) (by omega)]; exact hC.1.2.2.2.2
    have e2 : I24 (5 + 1) 2 = T 2 := by rw [show I24 (5 + 1) = I 6 from hD.2.2.2 6 (by decide) (by decide) (by omega)]; exact hC.1.2.2.1
    have e1 : I24 6 1 = T 1 := by rw [hD.2.2.2 6 (by decide) (by decide) (by omega)]; exact hC.1.2.1
    refine bq_aload_n (q := 28) G rfl dX8_minute_27 rfl ?_
    refine bq_getr (q := 31) G dX8_minute_28 rfl fl_X8_36 (by first | assumption | exact ⟨Nat.le_of_ble_eq_true rfl, rfl⟩) (fun _ _ _ => rfl) (rf_0_4 z) ?_
    refine bq_aload_n (q := 32) G rfl dX8_minute_31 rfl ?_
    refine bq_getr (q := 35) G dX8_minute_32 rfl fl_X8_26 (by first | assumption | exact ⟨Nat.le_of_ble_eq_true rfl, rfl⟩) (fun _ _ _ => rfl) (rf_0_2 z) ?_
    refine bq_callv (q := 38) G dX8_minute_35 rfl cl_X8_151 (c_X0_stairWidth (bq_Ce5 z)) rfl (by first | assumption | exact ⟨Nat.le_of_ble_eq_true rfl, rfl⟩) rfl ⟨Nat.le_of_ble_eq_true rfl, Nat.le_of_ble_eq_true rfl⟩ (Nat.le_of_ble_eq_true rfl) ⟨Nat.le_of_ble_eq_true rfl, Nat.le_of_ble_eq_true rfl⟩ rfl ?_
    refine bq_aload_n (q := 39) G rfl dX8_minute_38 rfl ?_
    refine bq_getr (q := 42) G dX8_minute_39 rfl fl_X8_26 (by first | assumption | exact ⟨Nat.le_of_ble_eq_true rfl, rfl⟩) (fun _ _ _ => rfl) (rf_0_2 z) ?_
    refine bq_callv (q := 45) G dX8_minute_42 rfl cl_X8_155 (c_X0_drainCups (bq_Ce5 z)) rfl (by first | assumption | exact ⟨Nat.le_of_ble_eq_true rfl, rfl⟩) rfl ⟨Nat.le_of_ble_eq_true rfl, Nat.le_of_ble_eq_true rfl⟩ (Nat.le_of_ble_eq_true rfl) ⟨Nat.le_of_ble_eq_true rfl, Nat.le_of_ble_eq_true rfl⟩ rfl ?_
    refine bq_callvV (q := 48) G dX8_minute_45 rfl cl_X8_158 (c_X5_pass (bq_Mo17 z) hD.1.1 hC.2.2.1) rfl (by first | assumption | exact ⟨Nat.le_of_ble_eq_true rfl, rfl⟩) rfl ⟨Nat.le_of_ble_eq_true rfl, Nat.le_of_ble_eq_true rfl⟩ (Nat.le_of_ble_eq_true rfl) ⟨Nat.le_of_ble_eq_true rfl, Nat.le_of_ble_eq_true rfl⟩ (fun I45 L45 h45 => ?_)
    obtain ⟨⟨g1, g2, g3, _, _⟩, g4, rfl⟩ := h45
    rw [e4, e2] at g1
    have hh : gs_hgt (I45 (5 + 1) 1) (I45 17 1) = gs_go (T 4) (T 2) (T 1) S 1 / T 1 := by
      rw [show I45 (5 + 1) 1 = T 1 from (congrFun (g4 6 (by decide)) 1).trans e1, gs_hgt1 hC.2.2.2.1, g1.1]
      unfold gs_go gs_pk
      rw [pk_un (by decide)]
    refine bq_aload_n (q := 49) G rfl dX8_minute_48 rfl ?_
    refine bq_getr (q := 52) G dX8_minute_49 rfl fl_X8_26 (by first | assumption | exact ⟨Nat.le_of_ble_eq_true rfl, rfl⟩) (fun _ _ _ => rfl) (rf_0_2 z) ?_
    refine bq_aload_n (q := 53) G rfl dX8_minute_52 rfl ?_
    refine bq_getr (q := 56) G dX8_minute_53 rfl fl_X8_36 (by first | assumption | exact ⟨Nat.le_of_ble_eq_true rfl, rfl⟩) (fun _ _ _ => rfl) (rf_0_4 z) ?_
    refine bq_geti (q := 59) G dX8_minute_56 rfl fl_X8_138 (by first | assumption | exact ⟨Nat.le_of_ble_eq_true rfl, rfl⟩) rfl ?_
    refine bq_callv (q := 62) G dX8_minute_59 rfl cl_X8_141 (c_X0_heightOf (bq_Ce5 z)) rfl (by first | assumption | exact ⟨Nat.le_of_ble_eq_true rfl, rfl⟩) rfl ⟨Nat.le_of_ble_eq_true rfl, Nat.le_of_ble_eq_true rfl⟩ (Nat.le_of_ble_eq_true rfl) ⟨Nat.le_of_ble_eq_true rfl, Nat.le_of_ble_eq_true rfl⟩ rfl ?_
    rw [hh]
    refine bq_istore_n (q := 63) (ls' := [_, _]) G dX8_minute_62 rfl (by decide) rfl rfl ?_
    refine bq_aload_n (q := 64) G rfl dX8_minute_63 rfl ?_
    refine bq_getr (q := 67) G dX8_minute_64 rfl fl_X8_36 (by first | assumption | exact ⟨Nat.le_of_ble_eq_true rfl, rfl⟩) (fun _ _ _ => rfl) (rf_0_4 z) ?_
    refine bq_aload_n (q := 68) G rfl dX8_minute_67 rfl ?_
    refine bq_getr (q := 71) G dX8_minute_68 rfl fl_X8_36 (by first | assumption | exact ⟨Nat.le_of_ble_eq_true rfl, rfl⟩) (fun _ _ _ => rfl) (rf_0_4 z) ?_
    refine bq_geti (q := 74) G dX8_minute_71 rfl fl_X8_145 (by first | assumption | exact ⟨Nat.le_of_ble_eq_true rfl, rfl⟩) rfl ?_
    refine bq_iload_n (q := 75) G rfl dX8_minute_74 rfl ?_
    refine bq_calls (q := 78) G dX8_minute_75 rfl cl_X8_162 (c_J9_max_7cf53) rfl rfl ⟨Nat.le_of_ble_eq_true rfl, Nat.le_of_ble_eq_true rfl⟩ (Nat.le_of_ble_eq_true rfl) ⟨Nat.le_of_ble_eq_true rfl, Nat.le_of_ble_eq_true rfl⟩ rfl ?_
    refine bq_puti (q := 81) G dX8_minute_78 rfl fl_X8_145 (by first | assumption | exact ⟨Nat.le_of_ble_eq_true rfl, rfl⟩) rfl rfl ?_
    refine bq_iload_n (q := 82) G rfl dX8_minute_81 rfl ?_
    refine hret _ _ _ _ _ dX8_minute_82 ⟨Or.inr ⟨hlt, rfl, hD.put ?_ (fun x hx => by rw [bq_sr_n (by omega)]; exact g4 x hx)⟩, rfl⟩
    have gm := g1.oth 2 (if I45 17 2 < gs_go (T 4) (T 2) (T 1) S 1 / T 1 then gs_go (T 4) (T 2) (T 1) S 1 / T 1 else I45 17 2) (Or.inr (Or.inl rfl))
    refine ⟨gm.row (fun j _ _ hj => ?_), ?_, ?_⟩
    · unfold gs_go gs_pk; rw [pk_un hj]
    · rw [bq_sru, if_neg (by decide), g2, hD.1.2.1]
      unfold gs_go gs_pk
      rw [pk_un (by decide), gs_min_0]
    · rw [bq_sru, if_pos rfl, g3, hD.1.2.2]
      have e : gs_go (T 4) (T 2) (T 1) S 1 = gs_min (T 4) (T 2) S 1 := by unfold gs_go gs_pk; rw [pk_un (by decide)]
      rw [e]
      unfold gs_go gs_pk
      rw [pk_us, gs_min_2]
  · refine bq_bipush (q := 15) (v := -2) G (by decide) dX8_minute_13 rfl ?_
    refine hret _ _ _ _ _ dX8_minute_15 ⟨Or.inl ⟨?_, rfl, rfl⟩, rfl⟩
    rw [h0] at c10
    exact Int32.le_antisymm h9.2 (Int32.not_lt.mp c10)
set_option maxHeartbeats 1000000 in
set_option maxRecDepth 100000 in
theorem c_X8_splits {z : Nat} {I : bq_IR} {L : bq_LR} {b : Int32} {p l : Nat} {T S : Nat → Int32} (hC : gs_CS I T S) (hp : I 25 1 = nI p) (hp8 : p ≤ 8) (hl : I 25 2 = nI l) (hl8 : l < 8) : bq_FI MX8_splits z [.ref (z + 0), .int b] 85 (bq_Rf z) I L (fun r J L' => ((¬ ((0 ≤ b ∧ b ≤ 7) ∧ S (51 + b.toNatClampNeg) = 1) ∧ r = -1 ∧ J = I) ∨ ∃ k : Nat, k < 8 ∧ b = nI k ∧ S (51 + k) = 1 ∧ ((¬ (S (3 + k) = 1 ∨ ¬ gs_fk S 8 0 = -9) ∧ r = -3 ∧ J = I) ∨ ((S (3 + k) = 1 ∨ ¬ gs_fk S 8 0 = -9) ∧ r = gs_spr k S ∧ gs_cD I p l S (gs_sp k S) J))) ∧ L' = L) := by
  refine bq_FIof [some (.ref (z + 0)), some (.int b)] rfl (Nat.le_of_ble_eq_true rfl) (by decide) rfl (fun _ _ _ _ => rfl) ?_
  intro A G hret
  have G : bq_Cx cX8_splits RX8 2 z (bq_rm MX8_splits 0 0) "splits" A := G
  have hF := hC.2.1.1.2.2.2.2.2
  refine bq_aload_n (q := 1) G rfl dX8_splits_0 rfl ?_
  refine bq_getr (q := 4) G dX8_splits_1 rfl fl_X8_36 (by first | assumption | exact ⟨Nat.le_of_ble_eq_true rfl, rfl⟩) (fun _ _ _ => rfl) (rf_0_4 z) ?_
  refine bq_iload_n (q := 5) G rfl dX8_splits_4 rfl ?_
  refine bq_callv (q := 8) G dX8_splits_5 rfl cl_X8_167 (c_X5_isThere (bq_Mo17 z).1) rfl (by first | assumption | exact ⟨Nat.le_of_ble_eq_true rfl, rfl⟩) rfl ⟨Nat.le_of_ble_eq_true rfl, Nat.le_of_ble_eq_true rfl⟩ (Nat.le_of_ble_eq_true rfl) ⟨Nat.le_of_ble_eq_true rfl, Nat.le_of_ble_eq_true rfl⟩ rfl ?_
  first | refine bq_ifb_ne (t := 13) (q := 11) G dX8_splits_8 (by decide) rfl (fun c8 => ?_) (fun c8 => ?_) | refine bq_if_ne (t := 13) (q := 11) G dX8_splits_8 (by decide) rfl (fun c8 => ?_) (fun c8 => ?_)
  · have hif := (gs_thr hF).mp c8
    obtain ⟨k, hk, rfl, h51⟩ := gs_th_ex (S := S) hif
    have hcan := gs_can hC.2.2.1 hk h51
    refine bq_aload_n (q := 14) G rfl dX8_splits_13 rfl ?_
    refine bq_getr (q := 17) G dX8_splits_14 rfl fl_X8_36 (by first | assumption | exact ⟨Nat.le_of_ble_eq_true rfl, rfl⟩) (fun _ _ _ => rfl) (rf_0_4 z) ?_
    refine bq_iload_n (q := 18) G rfl dX8_splits_17 rfl ?_
    refine bq_callv (q := 21) G dX8_splits_18 rfl cl_X8_170 (c_X5_canSplit (bq_Mo17 z) hC.2.1.1 hk) rfl (by first | assumption | exact ⟨Nat.le_of_ble_eq_true rfl, rfl⟩) rfl ⟨Nat.le_of_ble_eq_true rfl, Nat.le_of_ble_eq_true rfl⟩ (Nat.le_of_ble_eq_true rfl) ⟨Nat.le_of_ble_eq_true rfl, Nat.le_of_ble_eq_true rfl⟩ rfl ?_
    first | refine bq_ifb_ne (t := 27) (q := 24) G dX8_splits_21 (by decide) rfl (fun c21 => ?_) (fun c21 => ?_) | refine bq_if_ne (t := 27) (q := 24) G dX8_splits_21 (by decide) rfl (fun c21 => ?_) (fun c21 => ?_)
    · refine bq_aload_n (q := 28) G rfl dX8_splits_27 rfl ?_
      refine bq_getr (q := 31) G dX8_splits_28 rfl fl_X8_46 (by first | assumption | exact ⟨Nat.le_of_ble_eq_true rfl, rfl⟩) (fun _ _ _ => rfl) (rf_0_6 z) ?_
      refine bq_aload_n (q := 32) G rfl dX8_splits_31 rfl ?_
      refine bq_getr (q := 35) G dX8_splits_32 rfl fl_X8_36 (by first | assumption | exact ⟨Nat.le_of_ble_eq_true rfl, rfl⟩) (fun _ _ _ => rfl) (rf_0_4 z) ?_
      refine bq_callvV (q := 38) G dX8_splits_35 rfl cl_X8_148 (c_X6_remember (S := S) (p := p) (l := l) hC.2.1 hp hp8 hl hl8) rfl (by first | assumption | exact ⟨Nat.le_of_ble_eq_true rfl, rfl⟩) rfl ⟨Nat.le_of_ble_eq_true rfl, Nat.le_of_ble_eq_true rfl⟩ (Nat.le_of_ble_eq_true rfl) ⟨Nat.le_of_ble_eq_true rfl, Nat.le_of_ble_eq_true rfl⟩ (fun I35 L35 h35 => ?_)
      obtain ⟨hD, rfl⟩ := h35
      refine bq_aload_n (q := 39) G rfl dX8_splits_38 rfl ?_
      refine bq_getr (q := 42) G dX8_splits_39 rfl fl_X8_36 (by first | assumption | exact ⟨Nat.le_of_ble_eq_true rfl, rfl⟩) (fun _ _ _ => rfl) (rf_0_4 z) ?_
      refine bq_iload_n (q := 43) G rfl dX8_splits_42 rfl ?_
      refine bq_callvI (q := 46) G dX8_splits_43 rfl cl_X8_173 (c_X5_split (bq_Mo17 z) hD.1.1 hk c21 ((hC.2.2.1.2 k hk).2.1 h51).1) rfl (by first | assumption | exact ⟨Nat.le_of_ble_eq_true rfl, rfl⟩) rfl ⟨Nat.le_of_ble_eq_true rfl, Nat.le_of_ble_eq_true rfl⟩ (Nat.le_of_ble_eq_true rfl) ⟨Nat.le_of_ble_eq_true rfl, Nat.le_of_ble_eq_true rfl⟩ (fun r43 I43 L43 h43 => ?_)
      obtain ⟨rfl, ⟨g1, g2, g3, _, _⟩, g4, rfl⟩ := h43
      refine hret _ _ _ _ _ dX8_splits_46 ⟨Or.inr ⟨k, hk, rfl, h51, Or.inr ⟨hcan.mp c21, rfl, hD.put ⟨g1, ?_, ?_⟩ g4⟩⟩, rfl⟩
      · rw [g2, gs_sp_lo (by decide)]; exact hD.1.2.1
      · rw [g3, gs_sp_lo (by decide)]; exact hD.1.2.2
    · refine bq_bipush (q := 26) (v := -3) G (by decide) dX8_splits_24 rfl ?_
      exact hret _ _ _ _ _ dX8_splits_26 ⟨Or.inr ⟨k, hk, rfl, h51, Or.inl ⟨fun h => c21 (hcan.mpr h), rfl, rfl⟩⟩, rfl⟩
  · refine bq_iconst (q := 12) (v := -1) G (by decide) dX8_splits_11 rfl ?_
    exact hret _ _ _ _ _ dX8_splits_12 ⟨Or.inl ⟨fun h => c8 ((gs_thr hF).mpr h), rfl, rfl⟩, rfl⟩
theorem gs_cD.out {I J : bq_IR} {p l : Nat} {S : Nat → Int32} (h : gs_cD I p l S S J) {w : Int32} {S' : Nat → Int32} (hw : gs_F S' 27 w) (hS : ∀ j, j < 27 ∨ 35 ≤ j → S' j = S j) : gs_cD I p l S S' (bq_sr J 17 (upd (J 17) 6 w)) :=
  h.put ⟨h.1.1.out hw hS, by rw [bq_sru, if_neg (by decide), hS 0 (by omega)]; exact h.1.2.1, by rw [bq_sru, if_neg (by decide), hS 2 (by omega)]; exact h.1.2.2⟩ (fun x hx => bq_sr_n (by omega))
theorem gs_cD.bored {I J : bq_IR} {p l : Nat} {S : Nat → Int32} (h : gs_cD I p l S S J) {w : Int32} {S' : Nat → Int32} (hw : gs_F S' 35 w) (hS : ∀ j, j < 35 ∨ 43 ≤ j → S' j = S j) : gs_cD I p l S S' (bq_sr J 17 (upd (J 17) 7 w)) :=
  h.put ⟨h.1.1.bored hw hS, by rw [bq_sru, if_neg (by decide), hS 0 (by omega)]; exact h.1.2.1, by rw [bq_sru, if_neg (by decide), hS 2 (by omega)]; exact h.1.2.2⟩ (fun x hx => bq_sr_n (by omega))
theorem gs_cD.there {I J : bq_IR} {p l : Nat} {S : Nat → Int32} (h : gs_cD I p l S S J) {w : Int32} {S' : Nat → Int32} (hw : gs_F S' 51 w) (hS : ∀ j, j < 51 ∨ 59 ≤ j → S' j = S j) : gs_cD I p l S S' (bq_sr J 17 (upd (J 17) 9 w)) :=
  h.put ⟨h.1.1.there hw hS, by rw [bq_sru, if_neg (by decide), hS 0 (by omega)]; exact h.1.2.1, by rw [bq_sru, if_neg (by decide), hS 2 (by omega)]; exact h.1.2.2⟩ (fun x hx => bq_sr_n (by omega))
set_option maxHeartbeats 1000000 in
set_option maxRecDepth 100000 in
theorem c_X8_teaches {z : Nat} {I : bq_IR} {L : bq_LR} {b : Int32} {p l : Nat} {T S : Nat → Int32} (hC : gs_CS I T S) (hp : I 25 1 = nI p) (hp8 : p ≤ 8) (hl : I 25 2 = nI l) (hl8 : l < 8) : bq_FI MX8_teaches z [.ref (z + 0), .int b] 85 (bq_Rf z) I L (fun r J L' => ((¬ ((0 ≤ b ∧ b ≤ 7) ∧ S (51 + b.toNatClampNeg) = 1) ∧ r = -1 ∧ J = I) ∨ ∃ k : Nat, k < 8 ∧ b = nI k ∧ S (51 + k) = 1 ∧ (r = 1 - S (27 + k) ∧ gs_cD I p l S (upd S (27 + k) (1 - S (27 + k))) J)) ∧ L' = L) := by
  refine bq_FIof [some (.ref (z + 0)), some (.int b)] rfl (Nat.le_of_ble_eq_true rfl) (by decide) rfl (fun _ _ _ _ => rfl) ?_
  intro A G hret
  have G : bq_Cx cX8_teaches RX8 2 z (bq_rm MX8_teaches 0 0) "teaches" A := G
  have hF := hC.2.1.1.2.2.2.2.2
  refine bq_aload_n (q := 1) G rfl dX8_teaches_0 rfl ?_
  refine bq_getr (q := 4) G dX8_teaches_1 rfl fl_X8_36 (by first | assumption | exact ⟨Nat.le_of_ble_eq_true rfl, rfl⟩) (fun _ _ _ => rfl) (rf_0_4 z) ?_
  refine bq_iload_n (q := 5) G rfl dX8_teaches_4 rfl ?_
  refine bq_callv (q := 8) G dX8_teaches_5 rfl cl_X8_167 (c_X5_isThere (bq_Mo17 z).1) rfl (by first | assumption | exact ⟨Nat.le_of_ble_eq_true rfl, rfl⟩) rfl ⟨Nat.le_of_ble_eq_true rfl, Nat.le_of_ble_eq_true rfl⟩ (Nat.le_of_ble_eq_true rfl) ⟨Nat.le_of_ble_eq_true rfl, Nat.le_of_ble_eq_true rfl⟩ rfl ?_
  first | refine bq_ifb_ne (t := 13) (q := 11) G dX8_teaches_8 (by decide) rfl (fun c8 => ?_) (fun c8 => ?_) | refine bq_if_ne (t := 13) (q := 11) G dX8_teaches_8 (by decide) rfl (fun c8 => ?_) (fun c8 => ?_)
  · have hif := (gs_thr hF).mp c8
    obtain ⟨k, hk, rfl, h51⟩ := gs_th_ex (S := S) hif
    refine bq_aload_n (q := 14) G rfl dX8_teaches_13 rfl ?_
    refine bq_getr (q := 17) G dX8_teaches_14 rfl fl_X8_46 (by first | assumption | exact ⟨Nat.le_of_ble_eq_true rfl, rfl⟩) (fun _ _ _ => rfl) (rf_0_6 z) ?_
    refine bq_aload_n (q := 18) G rfl dX8_teaches_17 rfl ?_
    refine bq_getr (q := 21) G dX8_teaches_18 rfl fl_X8_36 (by first | assumption | exact ⟨Nat.le_of_ble_eq_true rfl, rfl⟩) (fun _ _ _ => rfl) (rf_0_4 z) ?_
    refine bq_callvV (q := 24) G dX8_teaches_21 rfl cl_X8_148 (c_X6_remember (S := S) (p := p) (l := l) hC.2.1 hp hp8 hl hl8) rfl (by first | assumption | exact ⟨Nat.le_of_ble_eq_true rfl, rfl⟩) rfl ⟨Nat.le_of_ble_eq_true rfl, Nat.le_of_ble_eq_true rfl⟩ (Nat.le_of_ble_eq_true rfl) ⟨Nat.le_of_ble_eq_true rfl, Nat.le_of_ble_eq_true rfl⟩ (fun I21 L21 h21 => ?_)
    obtain ⟨hD, rfl⟩ := h21
    have hw := hD.1.1.2.2.1.tog hk
    refine bq_aload_n (q := 25) G rfl dX8_teaches_24 rfl ?_
    refine bq_getr (q := 28) G dX8_teaches_25 rfl fl_X8_36 (by first | assumption | exact ⟨Nat.le_of_ble_eq_true rfl, rfl⟩) (fun _ _ _ => rfl) (rf_0_4 z) ?_
    refine bq_dup (q := 29) G rfl dX8_teaches_28 rfl ?_
    refine bq_geti (q := 32) G dX8_teaches_29 rfl fl_X8_119 (by first | assumption | exact ⟨Nat.le_of_ble_eq_true rfl, rfl⟩) rfl ?_
    refine bq_iconst (q := 33) (v := 1) G (by decide) dX8_teaches_32 rfl ?_
    refine bq_iload_n (q := 34) G rfl dX8_teaches_33 rfl ?_
    refine bq_ishl (q := 35) G dX8_teaches_34 rfl ?_
    refine bq_ixor (q := 36) G dX8_teaches_35 rfl ?_
    refine bq_puti (q := 39) G dX8_teaches_36 rfl fl_X8_119 (by first | assumption | exact ⟨Nat.le_of_ble_eq_true rfl, rfl⟩) rfl rfl ?_
    refine bq_aload_n (q := 40) G rfl dX8_teaches_39 rfl ?_
    refine bq_getr (q := 43) G dX8_teaches_40 rfl fl_X8_36 (by first | assumption | exact ⟨Nat.le_of_ble_eq_true rfl, rfl⟩) (fun _ _ _ => rfl) (rf_0_4 z) ?_
    refine bq_geti (q := 46) G dX8_teaches_43 rfl fl_X8_119 (by first | assumption | exact ⟨Nat.le_of_ble_eq_true rfl, rfl⟩) rfl ?_
    refine bq_iload_n (q := 47) G rfl dX8_teaches_46 rfl ?_
    rw [bq_sru, if_pos rfl]
    refine bq_calls (q := 50) G dX8_teaches_47 rfl cl_X8_122 (c_X8_bitOf) rfl rfl ⟨Nat.le_of_ble_eq_true rfl, Nat.le_of_ble_eq_true rfl⟩ (Nat.le_of_ble_eq_true rfl) ⟨Nat.le_of_ble_eq_true rfl, Nat.le_of_ble_eq_true rfl⟩ rfl ?_
    refine hret _ _ _ _ _ dX8_teaches_50 ⟨Or.inr ⟨k, hk, rfl, h51, ?_, hD.out hw (fun j hj => pk_un (by omega))⟩, rfl⟩
    rw [hw.get hk, pk_us]
  · refine bq_iconst (q := 12) (v := -1) G (by decide) dX8_teaches_11 rfl ?_
    exact hret _ _ _ _ _ dX8_teaches_12 ⟨Or.inl ⟨fun h => c8 ((gs_thr hF).mpr h), rfl, rfl⟩, rfl⟩
set_option maxHeartbeats 1000000 in
set_option maxRecDepth 100000 in
theorem c_X8_bores {z : Nat} {I : bq_IR} {L : bq_LR} {b : Int32} {p l : Nat} {T S : Nat → Int32} (hC : gs_CS I T S) (hp : I 25 1 = nI p) (hp8 : p ≤ 8) (hl : I 25 2 = nI l) (hl8 : l < 8) : bq_FI MX8_bores z [.ref (z + 0), .int b] 85 (bq_Rf z) I L (fun r J L' => ((¬ ((0 ≤ b ∧ b ≤ 7) ∧ S (51 + b.toNatClampNeg) = 1) ∧ r = -1 ∧ J = I) ∨ ∃ k : Nat, k < 8 ∧ b = nI k ∧ S (51 + k) = 1 ∧ ((S (35 + k) = 1 ∧ r = -2 ∧ J = I) ∨ (¬ S (35 + k) = 1 ∧ r = S (3 + k) ∧ gs_cD I p l S (upd S (35 + k) 1) J))) ∧ L' = L) := by
  refine bq_FIof [some (.ref (z + 0)), some (.int b)] rfl (Nat.le_of_ble_eq_true rfl) (by decide) rfl (fun _ _ _ _ => rfl) ?_
  intro A G hret
  have G : bq_Cx cX8_bores RX8 2 z (bq_rm MX8_bores 0 0) "bores" A := G
  have hF := hC.2.1.1.2.2.2.2.2
  refine bq_aload_n (q := 1) G rfl dX8_bores_0 rfl ?_
  refine bq_getr (q := 4) G dX8_bores_1 rfl fl_X8_36 (by first | assumption | exact ⟨Nat.le_of_ble_eq_true rfl, rfl⟩) (fun _ _ _ => rfl) (rf_0_4 z) ?_
  refine bq_iload_n (q := 5) G rfl dX8_bores_4 rfl ?_
  refine bq_callv (q := 8) G dX8_bores_5 rfl cl_X8_167 (c_X5_isThere (bq_Mo17 z).1) rfl (by first | assumption | exact ⟨Nat.le_of_ble_eq_true rfl, rfl⟩) rfl ⟨Nat.le_of_ble_eq_true rfl, Nat.le_of_ble_eq_true rfl⟩ (Nat.le_of_ble_eq_true rfl) ⟨Nat.le_of_ble_eq_true rfl, Nat.le_of_ble_eq_true rfl⟩ rfl ?_
  first | refine bq_ifb_ne (t := 13) (q := 11) G dX8_bores_8 (by decide) rfl (fun c8 => ?_) (fun c8 => ?_) | refine bq_if_ne (t := 13) (q := 11) G dX8_bores_8 (by decide) rfl (fun c8 => ?_) (fun c8 => ?_)
  · have hif := (gs_thr hF).mp c8
    obtain ⟨k, hk, rfl, h51⟩ := gs_th_ex (S := S) hif
    have hg := hC.2.1.1.2.2.2.1.get hk
    refine bq_aload_n (q := 14) G rfl dX8_bores_13 rfl ?_
    refine bq_getr (q := 17) G dX8_bores_14 rfl fl_X8_36 (by first | assumption | exact ⟨Nat.le_of_ble_eq_true rfl, rfl⟩) (fun _ _ _ => rfl) (rf_0_4 z) ?_
    refine bq_geti (q := 20) G dX8_bores_17 rfl fl_X8_126 (by first | assumption | exact ⟨Nat.le_of_ble_eq_true rfl, rfl⟩) rfl ?_
    refine bq_iload_n (q := 21) G rfl dX8_bores_20 rfl ?_
    refine bq_calls (q := 24) G dX8_bores_21 rfl cl_X8_122 (c_X8_bitOf) rfl rfl ⟨Nat.le_of_ble_eq_true rfl, Nat.le_of_ble_eq_true rfl⟩ (Nat.le_of_ble_eq_true rfl) ⟨Nat.le_of_ble_eq_true rfl, Nat.le_of_ble_eq_true rfl⟩ rfl ?_
    rw [hg]
    refine bq_iconst (q := 25) (v := 1) G (by decide) dX8_bores_24 rfl ?_
    refine bq_icmp_ne (t := 31) (q := 28) G dX8_bores_25 (by decide) rfl (fun c25 => ?_) (fun c25 => ?_)
    · refine bq_aload_n (q := 32) G rfl dX8_bores_31 rfl ?_
      refine bq_getr (q := 35) G dX8_bores_32 rfl fl_X8_46 (by first | assumption | exact ⟨Nat.le_of_ble_eq_true rfl, rfl⟩) (fun _ _ _ => rfl) (rf_0_6 z) ?_
      refine bq_aload_n (q := 36) G rfl dX8_bores_35 rfl ?_
      refine bq_getr (q := 39) G dX8_bores_36 rfl fl_X8_36 (by first | assumption | exact ⟨Nat.le_of_ble_eq_true rfl, rfl⟩) (fun _ _ _ => rfl) (rf_0_4 z) ?_
      refine bq_callvV (q := 42) G dX8_bores_39 rfl cl_X8_148 (c_X6_remember (S := S) (p := p) (l := l) hC.2.1 hp hp8 hl hl8) rfl (by first | assumption | exact ⟨Nat.le_of_ble_eq_true rfl, rfl⟩) rfl ⟨Nat.le_of_ble_eq_true rfl, Nat.le_of_ble_eq_true rfl⟩ (Nat.le_of_ble_eq_true rfl) ⟨Nat.le_of_ble_eq_true rfl, Nat.le_of_ble_eq_true rfl⟩ (fun I39 L39 h39 => ?_)
      obtain ⟨hD, rfl⟩ := h39
      have hw := hD.1.1.2.2.2.1.set1 hk
      have e3 : I39 18 k = S (3 + k) := (hD.1.1.2.1 k hk).1
      refine bq_aload_n (q := 43) G rfl dX8_bores_42 rfl ?_
      refine bq_getr (q := 46) G dX8_bores_43 rfl fl_X8_36 (by first | assumption | exact ⟨Nat.le_of_ble_eq_true rfl, rfl⟩) (fun _ _ _ => rfl) (rf_0_4 z) ?_
      refine bq_dup (q := 47) G rfl dX8_bores_46 rfl ?_
      refine bq_geti (q := 50) G dX8_bores_47 rfl fl_X8_126 (by first | assumption | exact ⟨Nat.le_of_ble_eq_true rfl, rfl⟩) rfl ?_
      refine bq_iconst (q := 51) (v := 1) G (by decide) dX8_bores_50 rfl ?_
      refine bq_iload_n (q := 52) G rfl dX8_bores_51 rfl ?_
      refine bq_ishl (q := 53) G dX8_bores_52 rfl ?_
      refine bq_ior (q := 54) G dX8_bores_53 rfl ?_
      refine bq_puti (q := 57) G dX8_bores_54 rfl fl_X8_126 (by first | assumption | exact ⟨Nat.le_of_ble_eq_true rfl, rfl⟩) rfl rfl ?_
      refine bq_aload_n (q := 58) G rfl dX8_bores_57 rfl ?_
      refine bq_getr (q := 61) G dX8_bores_58 rfl fl_X8_36 (by first | assumption | exact ⟨Nat.le_of_ble_eq_true rfl, rfl⟩) (fun _ _ _ => rfl) (rf_0_4 z) ?_
      refine bq_getr (q := 64) G dX8_bores_61 rfl fl_X8_109 (by first | assumption | exact ⟨Nat.le_of_ble_eq_true rfl, rfl⟩) (fun _ _ _ => rfl) rfl ?_
      refine bq_iload_n (q := 65) G rfl dX8_bores_64 rfl ?_
      refine bq_iald (q := 66) (b := k) G dX8_bores_65 rfl (by first | assumption | exact ⟨Nat.le_of_ble_eq_true rfl, rfl⟩) rfl hk (by decide) ?_
      refine hret _ _ _ _ _ dX8_bores_66 ⟨Or.inr ⟨k, hk, rfl, h51, Or.inr ⟨c25, ?_, hD.bored hw (fun j hj => pk_un (by omega))⟩⟩, rfl⟩
      rw [bq_srn1 (by decide)]; exact e3
    · refine bq_bipush (q := 30) (v := -2) G (by decide) dX8_bores_28 rfl ?_
      exact hret _ _ _ _ _ dX8_bores_30 ⟨Or.inr ⟨k, hk, rfl, h51, Or.inl ⟨c25, rfl, rfl⟩⟩, rfl⟩
  · refine bq_iconst (q := 12) (v := -1) G (by decide) dX8_bores_11 rfl ?_
    exact hret _ _ _ _ _ dX8_bores_12 ⟨Or.inl ⟨fun h => c8 ((gs_thr hF).mpr h), rfl, rfl⟩, rfl⟩
set_option maxHeartbeats 1000000 in
set_option maxRecDepth 100000 in
theorem c_X8_takeAway {z : Nat} {I : bq_IR} {L : bq_LR} {k : Nat} {p l : Nat} {T S : Nat → Int32} (hC : gs_CS I T S) (hk : k < 8) (hp : I 25 1 = nI p) (hp8 : p ≤ 8) (hl : I 25 2 = nI l) (hl8 : l < 8) : bq_FI MX8_takeAway z [.ref (z + 0), .int (nI k)] 85 (bq_Rf z) I L (fun r J L' => (r = gs_on (gs_orb (upd S (51 + k) 0) 8) 8 ∧ gs_cD I p l S (upd S (51 + k) 0) J) ∧ L' = L) := by
  refine bq_FIof [some (.ref (z + 0)), some (.int (nI k))] rfl (Nat.le_of_ble_eq_true rfl) (by decide) rfl (fun _ _ _ _ => rfl) ?_
  intro A G hret
  have G : bq_Cx cX8_takeAway RX8 2 z (bq_rm MX8_takeAway 0 0) "takeAway" A := G
  refine bq_aload_n (q := 1) G rfl dX8_takeAway_0 rfl ?_
  refine bq_getr (q := 4) G dX8_takeAway_1 rfl fl_X8_46 (by first | assumption | exact ⟨Nat.le_of_ble_eq_true rfl, rfl⟩) (fun _ _ _ => rfl) (rf_0_6 z) ?_
  refine bq_aload_n (q := 5) G rfl dX8_takeAway_4 rfl ?_
  refine bq_getr (q := 8) G dX8_takeAway_5 rfl fl_X8_36 (by first | assumption | exact ⟨Nat.le_of_ble_eq_true rfl, rfl⟩) (fun _ _ _ => rfl) (rf_0_4 z) ?_
  refine bq_callvV (q := 11) G dX8_takeAway_8 rfl cl_X8_148 (c_X6_remember (S := S) (p := p) (l := l) hC.2.1 hp hp8 hl hl8) rfl (by first | assumption | exact ⟨Nat.le_of_ble_eq_true rfl, rfl⟩) rfl ⟨Nat.le_of_ble_eq_true rfl, Nat.le_of_ble_eq_true rfl⟩ (Nat.le_of_ble_eq_true rfl) ⟨Nat.le_of_ble_eq_true rfl, Nat.le_of_ble_eq_true rfl⟩ (fun I8 L8 h8 => ?_)
  obtain ⟨hD, rfl⟩ := h8
  have hw := hD.1.1.2.2.2.2.2.set0 hk
  refine bq_aload_n (q := 12) G rfl dX8_takeAway_11 rfl ?_
  refine bq_getr (q := 15) G dX8_takeAway_12 rfl fl_X8_36 (by first | assumption | exact ⟨Nat.le_of_ble_eq_true rfl, rfl⟩) (fun _ _ _ => rfl) (rf_0_4 z) ?_
  refine bq_dup (q := 16) G rfl dX8_takeAway_15 rfl ?_
  refine bq_geti (q := 19) G dX8_takeAway_16 rfl fl_X8_132 (by first | assumption | exact ⟨Nat.le_of_ble_eq_true rfl, rfl⟩) rfl ?_
  refine bq_iconst (q := 20) (v := 1) G (by decide) dX8_takeAway_19 rfl ?_
  refine bq_iload_n (q := 21) G rfl dX8_takeAway_20 rfl ?_
  refine bq_ishl (q := 22) G dX8_takeAway_21 rfl ?_
  refine bq_iconst (q := 23) (v := -1) G (by decide) dX8_takeAway_22 rfl ?_
  refine bq_ixor (q := 24) G dX8_takeAway_23 rfl ?_
  refine bq_iand (q := 25) G dX8_takeAway_24 rfl ?_
  refine bq_puti (q := 28) G dX8_takeAway_25 rfl fl_X8_132 (by first | assumption | exact ⟨Nat.le_of_ble_eq_true rfl, rfl⟩) rfl rfl ?_
  refine bq_aload_n (q := 29) G rfl dX8_takeAway_28 rfl ?_
  refine bq_getr (q := 32) G dX8_takeAway_29 rfl fl_X8_36 (by first | assumption | exact ⟨Nat.le_of_ble_eq_true rfl, rfl⟩) (fun _ _ _ => rfl) (rf_0_4 z) ?_
  refine bq_geti (q := 35) G dX8_takeAway_32 rfl fl_X8_132 (by first | assumption | exact ⟨Nat.le_of_ble_eq_true rfl, rfl⟩) rfl ?_
  rw [bq_sru, if_pos rfl]
  refine bq_calls (q := 38) G dX8_takeAway_35 rfl cl_X8_182 (c_J6_bitCount_0f7a4) rfl rfl ⟨Nat.le_of_ble_eq_true rfl, Nat.le_of_ble_eq_true rfl⟩ (Nat.le_of_ble_eq_true rfl) ⟨Nat.le_of_ble_eq_true rfl, Nat.le_of_ble_eq_true rfl⟩ rfl ?_
  refine hret _ _ _ _ _ dX8_takeAway_38 ⟨⟨?_, hD.there hw (fun j hj => pk_un (by omega))⟩, rfl⟩
  rw [hw.orb]
  obtain ⟨x, hx, e, -⟩ := hw
  rw [e, jd_bcx x hx]
set_option maxHeartbeats 1000000 in
set_option maxRecDepth 100000 in
theorem c_X8_burns {z : Nat} {I : bq_IR} {L : bq_LR} {b : Int32} {p l : Nat} {T S : Nat → Int32} (hC : gs_CS I T S) (hp : I 25 1 = nI p) (hp8 : p ≤ 8) (hl : I 25 2 = nI l) (hl8 : l < 8) : bq_FI MX8_burns z [.ref (z + 0), .int b] 85 (bq_Rf z) I L (fun r J L' => ((¬ ((0 ≤ b ∧ b ≤ 7) ∧ S (51 + b.toNatClampNeg) = 1) ∧ r = -1 ∧ J = I) ∨ ∃ k : Nat, k < 8 ∧ b = nI k ∧ S (51 + k) = 1 ∧ ((S (43 + k) = 1 ∧ r = -2 ∧ J = I) ∨ (¬ S (43 + k) = 1 ∧ r = gs_on (gs_orb (upd S (51 + k) 0) 8) 8 ∧ gs_cD I p l S (upd S (51 + k) 0) J))) ∧ L' = L) := by
  refine bq_FIof [some (.ref (z + 0)), some (.int b)] rfl (Nat.le_of_ble_eq_true rfl) (by decide) rfl (fun _ _ _ _ => rfl) ?_
  intro A G hret
  have G : bq_Cx cX8_burns RX8 2 z (bq_rm MX8_burns 0 0) "burns" A := G
  have hF := hC.2.1.1.2.2.2.2.2
  refine bq_aload_n (q := 1) G rfl dX8_burns_0 rfl ?_
  refine bq_getr (q := 4) G dX8_burns_1 rfl fl_X8_36 (by first | assumption | exact ⟨Nat.le_of_ble_eq_true rfl, rfl⟩) (fun _ _ _ => rfl) (rf_0_4 z) ?_
  refine bq_iload_n (q := 5) G rfl dX8_burns_4 rfl ?_
  refine bq_callv (q := 8) G dX8_burns_5 rfl cl_X8_167 (c_X5_isThere (bq_Mo17 z).1) rfl (by first | assumption | exact ⟨Nat.le_of_ble_eq_true rfl, rfl⟩) rfl ⟨Nat.le_of_ble_eq_true rfl, Nat.le_of_ble_eq_true rfl⟩ (Nat.le_of_ble_eq_true rfl) ⟨Nat.le_of_ble_eq_true rfl, Nat.le_of_ble_eq_true rfl⟩ rfl ?_
  first | refine bq_ifb_ne (t := 13) (q := 11) G dX8_burns_8 (by decide) rfl (fun c8 => ?_) (fun c8 => ?_) | refine bq_if_ne (t := 13) (q := 11) G dX8_burns_8 (by decide) rfl (fun c8 => ?_) (fun c8 => ?_)
  · have hif := (gs_thr hF).mp c8
    obtain ⟨k, hk, rfl, h51⟩ := gs_th_ex (S := S) hif
    have hg := hC.2.1.1.2.2.2.2.1.get hk
    refine bq_aload_n (q := 14) G rfl dX8_burns_13 rfl ?_
    refine bq_getr (q := 17) G dX8_burns_14 rfl fl_X8_36 (by first | assumption | exact ⟨Nat.le_of_ble_eq_true rfl, rfl⟩) (fun _ _ _ => rfl) (rf_0_4 z) ?_
    refine bq_geti (q := 20) G dX8_burns_17 rfl fl_X8_129 (by first | assumption | exact ⟨Nat.le_of_ble_eq_true rfl, rfl⟩) rfl ?_
    refine bq_iload_n (q := 21) G rfl dX8_burns_20 rfl ?_
    refine bq_calls (q := 24) G dX8_burns_21 rfl cl_X8_122 (c_X8_bitOf) rfl rfl ⟨Nat.le_of_ble_eq_true rfl, Nat.le_of_ble_eq_true rfl⟩ (Nat.le_of_ble_eq_true rfl) ⟨Nat.le_of_ble_eq_true rfl, Nat.le_of_ble_eq_true rfl⟩ rfl ?_
    rw [hg]
    refine bq_iconst (q := 25) (v := 1) G (by decide) dX8_burns_24 rfl ?_
    refine bq_icmp_ne (t := 31) (q := 28) G dX8_burns_25 (by decide) rfl (fun c25 => ?_) (fun c25 => ?_)
    · refine bq_aload_n (q := 32) G rfl dX8_burns_31 rfl ?_
      refine bq_iload_n (q := 33) G rfl dX8_burns_32 rfl ?_
      refine bq_callvI (q := 36) G dX8_burns_33 rfl cl_X8_176 (c_X8_takeAway (T := T) (S := S) (p := p) (l := l) hC hk hp hp8 hl hl8) rfl (by first | assumption | exact ⟨Nat.le_of_ble_eq_true rfl, rfl⟩) rfl ⟨Nat.le_of_ble_eq_true rfl, Nat.le_of_ble_eq_true rfl⟩ (Nat.le_of_ble_eq_true rfl) ⟨Nat.le_of_ble_eq_true rfl, Nat.le_of_ble_eq_true rfl⟩ (fun r33 I33 L33 h33 => ?_)
      exact hret _ _ _ _ _ dX8_burns_36 ⟨Or.inr ⟨k, hk, rfl, h51, Or.inr ⟨c25, h33.1⟩⟩, h33.2⟩
    · refine bq_bipush (q := 30) (v := -2) G (by decide) dX8_burns_28 rfl ?_
      exact hret _ _ _ _ _ dX8_burns_30 ⟨Or.inr ⟨k, hk, rfl, h51, Or.inl ⟨c25, rfl, rfl⟩⟩, rfl⟩
  · refine bq_iconst (q := 12) (v := -1) G (by decide) dX8_burns_11 rfl ?_
    exact hret _ _ _ _ _ dX8_burns_12 ⟨Or.inl ⟨fun h => c8 ((gs_thr hF).mpr h), rfl, rfl⟩, rfl⟩
set_option maxHeartbeats 1000000 in
set_option maxRecDepth 100000 in
theorem c_X8_halts {z : Nat} {I : bq_IR} {L : bq_LR} {b : Int32} {p l : Nat} {T S : Nat → Int32} (hC : gs_CS I T S) (hp : I 25 1 = nI p) (hp8 : p ≤ 8) (hl : I 25 2 = nI l) (hl8 : l < 8) : bq_FI MX8_halts z [.ref (z + 0), .int b] 85 (bq_Rf z) I L (fun r J L' => ((¬ ((0 ≤ b ∧ b ≤ 7) ∧ S (51 + b.toNatClampNeg) = 1) ∧ r = -1 ∧ J = I) ∨ ∃ k : Nat, k < 8 ∧ b = nI k ∧ S (51 + k) = 1 ∧ (r = gs_on (gs_orb (upd S (51 + k) 0) 8) 8 ∧ gs_cD I p l S (upd S (51 + k) 0) J)) ∧ L' = L) := by
  refine bq_FIof [some (.ref (z + 0)), some (.int b)] rfl (Nat.le_of_ble_eq_true rfl) (by decide) rfl (fun _ _ _ _ => rfl) ?_
  intro A G hret
  have G : bq_Cx cX8_halts RX8 2 z (bq_rm MX8_halts 0 0) "halts" A := G
  have hF := hC.2.1.1.2.2.2.2.2
  refine bq_aload_n (q := 1) G rfl dX8_halts_0 rfl ?_
  refine bq_getr (q := 4) G dX8_halts_1 rfl fl_X8_36 (by first | assumption | exact ⟨Nat.le_of_ble_eq_true rfl, rfl⟩) (fun _ _ _ => rfl) (rf_0_4 z) ?_
  refine bq_iload_n (q := 5) G rfl dX8_halts_4 rfl ?_
  refine bq_callv (q := 8) G dX8_halts_5 rfl cl_X8_167 (c_X5_isThere (bq_Mo17 z).1) rfl (by first | assumption | exact ⟨Nat.le_of_ble_eq_true rfl, rfl⟩) rfl ⟨Nat.le_of_ble_eq_true rfl, Nat.le_of_ble_eq_true rfl⟩ (Nat.le_of_ble_eq_true rfl) ⟨Nat.le_of_ble_eq_true rfl, Nat.le_of_ble_eq_true rfl⟩ rfl ?_
  first | refine bq_ifb_ne (t := 13) (q := 11) G dX8_halts_8 (by decide) rfl (fun c8 => ?_) (fun c8 => ?_) | refine bq_if_ne (t := 13) (q := 11) G dX8_halts_8 (by decide) rfl (fun c8 => ?_) (fun c8 => ?_)
  · have hif := (gs_thr hF).mp c8
    obtain ⟨k, hk, rfl, h51⟩ := gs_th_ex (S := S) hif
    refine bq_aload_n (q := 14) G rfl dX8_halts_13 rfl ?_
    refine bq_iload_n (q := 15) G rfl dX8_halts_14 rfl ?_
    refine bq_callvI (q := 18) G dX8_halts_15 rfl cl_X8_176 (c_X8_takeAway (T := T) (S := S) (p := p) (l := l) hC hk hp hp8 hl hl8) rfl (by first | assumption | exact ⟨Nat.le_of_ble_eq_true rfl, rfl⟩) rfl ⟨Nat.le_of_ble_eq_true rfl, Nat.le_of_ble_eq_true rfl⟩ (Nat.le_of_ble_eq_true rfl) ⟨Nat.le_of_ble_eq_true rfl, Nat.le_of_ble_eq_true rfl⟩ (fun r15 I15 L15 h15 => ?_)
    exact hret _ _ _ _ _ dX8_halts_18 ⟨Or.inr ⟨k, hk, rfl, h51, h15.1⟩, h15.2⟩
  · refine bq_iconst (q := 12) (v := -1) G (by decide) dX8_halts_11 rfl ?_
    exact hret _ _ _ _ _ dX8_halts_12 ⟨Or.inl ⟨fun h => c8 ((gs_thr hF).mpr h), rfl, rfl⟩, rfl⟩
set_option maxHeartbeats 1000000 in
set_option maxRecDepth 100000 in
theorem c_X8_undo {z : Nat} {I : bq_IR} {L : bq_LR} {p l : Nat} {S : Nat → Int32} (hM : 0 < p → gs_Mr I (27 + 4 * l) S) (hp : I 25 1 = nI p) (hp8 : p ≤ 8) (hl : I 25 2 = nI l) (hl8 : l < 8) : bq_FI MX8_undo z [.ref (z + 0)] 85 (bq_Rf z) I L (fun r J L' => ((p = 0 ∧ r = -2 ∧ J = I) ∨ (∃ q : Nat, p = q + 1 ∧ r = nI q ∧ (gs_Mr J 17 S ∧ (J 25 1 = nI q ∧ J 25 2 = nI ((l + 7) % 8)) ∧ ∀ x, (x < 17 ∨ 20 < x) → x ≠ 25 → J x = I x))) ∧ L' = L) := by
  refine bq_FIof [some (.ref (z + 0))] rfl (Nat.le_of_ble_eq_true rfl) (by decide) rfl (fun _ _ _ _ => rfl) ?_
  intro A G hret
  have G : bq_Cx cX8_undo RX8 1 z (bq_rm MX8_undo 0 0) "undo" A := G
  rcases Nat.eq_zero_or_pos p with h0 | h0
  · subst h0
    refine bq_aload_n (q := 1) G rfl dX8_undo_0 rfl ?_
    refine bq_getr (q := 4) G dX8_undo_1 rfl fl_X8_46 (by first | assumption | exact ⟨Nat.le_of_ble_eq_true rfl, rfl⟩) (fun _ _ _ => rfl) (rf_0_6 z) ?_
    refine bq_geti (q := 7) G dX8_undo_4 rfl fl_X8_108 (by first | assumption | exact ⟨Nat.le_of_ble_eq_true rfl, rfl⟩) rfl ?_
    refine bq_if_ne_f (q := 10) (t := 13) G dX8_undo_7 rfl (by decide) hp ?_
    refine bq_bipush (q := 12) (v := -2) G (by decide) dX8_undo_10 rfl ?_
    exact hret _ _ _ _ _ dX8_undo_12 ⟨Or.inl ⟨rfl, rfl, rfl⟩, rfl⟩
  · obtain ⟨q, rfl⟩ : ∃ q, p = q + 1 := ⟨p - 1, by omega⟩
    refine bq_aload_n (q := 1) G rfl dX8_undo_0 rfl ?_
    refine bq_getr (q := 4) G dX8_undo_1 rfl fl_X8_46 (by first | assumption | exact ⟨Nat.le_of_ble_eq_true rfl, rfl⟩) (fun _ _ _ => rfl) (rf_0_6 z) ?_
    refine bq_geti (q := 7) G dX8_undo_4 rfl fl_X8_108 (by first | assumption | exact ⟨Nat.le_of_ble_eq_true rfl, rfl⟩) rfl ?_
    refine bq_if_ne_t (t := 13) G dX8_undo_7 (by decide) (by rw [hp]; exact nI_ne0 (by omega) (by omega)) ?_
    refine bq_aload_n (q := 14) G rfl dX8_undo_13 rfl ?_
    refine bq_getr (q := 17) G dX8_undo_14 rfl fl_X8_46 (by first | assumption | exact ⟨Nat.le_of_ble_eq_true rfl, rfl⟩) (fun _ _ _ => rfl) (rf_0_6 z) ?_
    refine bq_aload_n (q := 18) G rfl dX8_undo_17 rfl ?_
    refine bq_getr (q := 21) G dX8_undo_18 rfl fl_X8_36 (by first | assumption | exact ⟨Nat.le_of_ble_eq_true rfl, rfl⟩) (fun _ _ _ => rfl) (rf_0_4 z) ?_
    refine bq_callvV (q := 24) G dX8_undo_21 rfl cl_X8_179 (c_X6_bringBack (S := S) (p := q) (l := l) (hM h0) hp (by omega) hl hl8) rfl (by first | assumption | exact ⟨Nat.le_of_ble_eq_true rfl, rfl⟩) rfl ⟨Nat.le_of_ble_eq_true rfl, Nat.le_of_ble_eq_true rfl⟩ (Nat.le_of_ble_eq_true rfl) ⟨Nat.le_of_ble_eq_true rfl, Nat.le_of_ble_eq_true rfl⟩ (fun I21 L21 h21 => ?_)
    obtain ⟨hb, rfl⟩ := h21
    refine bq_aload_n (q := 25) G rfl dX8_undo_24 rfl ?_
    refine bq_getr (q := 28) G dX8_undo_25 rfl fl_X8_46 (by first | assumption | exact ⟨Nat.le_of_ble_eq_true rfl, rfl⟩) (fun _ _ _ => rfl) (rf_0_6 z) ?_
    refine bq_geti (q := 31) G dX8_undo_28 rfl fl_X8_108 (by first | assumption | exact ⟨Nat.le_of_ble_eq_true rfl, rfl⟩) rfl ?_
    exact hret _ _ _ _ _ dX8_undo_31 ⟨Or.inr ⟨q, rfl, hb.2.1.1, hb⟩, rfl⟩
