/-! the cellar's telling -/
def cf_s (j : Nat) : Int32 := ([0, 4, 0, 10, 8] : List Int32).getD j 0
def cf_l (j : Nat) : Int32 := ([0, 1, 0, 0, 1, 1, 1, 1] : List Int32).getD j 0
def cf_h (j : Nat) : Int32 := ([99, 20, 20, 99, 8, 64, 40, 40] : List Int32).getD j 0
theorem gs_cp5 {k : Nat} {f g : Nat → Int32} : upd (gs_cp k f g) k (f k) = gs_cp (k + 1) f g := gs_cp_s.symm
set_option maxHeartbeats 1000000 in
set_option maxRecDepth 100000 in
theorem c_X0_tellNothing {z n : Nat} {R : bq_RR} {I : bq_IR} {L : bq_LR} {c : Nat} (hC : bq_Ce z n R c) : bq_FV MX0_tellNothing z [.ref (z + c)] n R I L (fun J L' => ((∀ j, j < 5 → J (c + 1) j = cf_s j) ∧ J c 2 = 0 ∧ (bq_MC J (c + 2) (fun _ => 0) ∧ J (c + 2) 0 = 0 ∧ J (c + 2) 2 = 0) ∧ ∀ x, x ≠ c → x ≠ c + 1 → (x < c + 2 ∨ c + 2 + 3 < x) → J x = I x) ∧ L' = L) := by
  refine bq_FVof [some (.ref (z + c)), none] rfl (Nat.le_of_ble_eq_true rfl) (by decide) rfl ?_
  intro A G hret
  have G : bq_Cx cX0_tellNothing RX0 2 z (bq_rm MX0_tellNothing 0 0) "tellNothing" A := G
  obtain ⟨ho, ha, h0, h1, hm⟩ := hC
  have ho5 := hm.1
  have loop : ∀ k, k ≤ 5 → A 0 0 2 [some (.ref (z + c)), some (.int (nI k))] [] n R (bq_sr I (c + 1) (gs_cp k cf_s (I (c + 1)))) L := by
    refine bq_down 5 ?_
    intro k hk ih
    rcases Nat.lt_or_ge k 5 with hk8 | hk8
    · have ih := ih hk8
      refine bq_iload_n (q := 3) G rfl dX0_tellNothing_2 rfl ?_
      refine bq_iconst (q := 4) (v := 5) G (by decide) dX0_tellNothing_3 rfl ?_
      refine bq_icmp_ge_f (q := 7) (t := 24) G dX0_tellNothing_4 rfl (by decide) (nI_ge (a := k) (b := 5) hk8 (by decide)) ?_
      refine bq_aload_n (q := 8) G rfl dX0_tellNothing_7 rfl ?_
      refine bq_getr (q := 11) G dX0_tellNothing_8 rfl fl_X0_9 (by first | assumption | exact ⟨Nat.le_of_ble_eq_true rfl, rfl⟩) (fun _ _ _ => rfl) (by first | assumption | rfl) ?_
      refine bq_iload_n (q := 12) G rfl dX0_tellNothing_11 rfl ?_
      refine bq_gets (q := 15) G dX0_tellNothing_12 rfl fs_X0_23 (Or.inl ⟨rfl, rfl, rfl, rfl⟩) (fun t12 ht12 => ?_)
      refine bq_iload_n (q := 16) G rfl dX0_tellNothing_15 rfl ?_
      refine ht12.1 _ _ 16 17 _ _ _ _ _ _ _ dX0_tellNothing_16 rfl hk8 ?_
      refine bq_top (show bq_AF k = .int (cf_s k) from rfl) ?_
      refine bq_iast (q := 18) (b := k) G dX0_tellNothing_17 rfl (by first | assumption | exact ⟨Nat.le_of_ble_eq_true rfl, rfl⟩) rfl hk8 (by decide) ?_
      refine bq_iinc (q := 21) (ls' := [_, _]) G dX0_tellNothing_18 rfl rfl (by first | exact nI_1 _ | exact pk_m1 _ | rfl) (by decide) rfl rfl ?_
      refine bq_goto (q := 2) G dX0_tellNothing_21 (by decide) ?_
      rw [bq_sr_sr, bq_sr_s, gs_cp5]
      exact ih
    · have hk9 : k = 5 := by omega
      subst hk9
      refine bq_nameI (P := fun K => (∀ j, j < 5 → K (c + 1) j = cf_s j) ∧ ∀ x, x ≠ c + 1 → K x = I x) ⟨fun j hj => by rw [bq_sr_s]; exact gs_cp_lt hj, fun x hx => bq_sr_n hx⟩ (fun K hK => ?_)
      refine bq_iload_n (q := 3) G rfl dX0_tellNothing_2 rfl ?_
      refine bq_iconst (q := 4) (v := 5) G (by decide) dX0_tellNothing_3 rfl ?_
      refine bq_icmp_ge_t (t := 24) G dX0_tellNothing_4 (by decide) (nI_le (a := 5) (b := 5) (by omega) (by decide)) ?_
      refine bq_aload_n (q := 25) G rfl dX0_tellNothing_24 rfl ?_
      refine bq_iconst (q := 26) (v := 0) G (by decide) dX0_tellNothing_25 rfl ?_
      refine bq_puti (q := 29) G dX0_tellNothing_26 rfl fl_X0_26 (by first | assumption | exact ⟨Nat.le_of_ble_eq_true rfl, rfl⟩) rfl rfl ?_
      refine bq_aload_n (q := 30) G rfl dX0_tellNothing_29 rfl ?_
      refine bq_getr (q := 33) G dX0_tellNothing_30 rfl fl_X0_16 (by first | assumption | exact ⟨Nat.le_of_ble_eq_true rfl, rfl⟩) (fun _ _ _ => rfl) (by first | assumption | rfl) ?_
      refine bq_callvV (q := 36) G dX0_tellNothing_33 rfl cl_X0_30 (c_X5_empty hm) rfl (by first | assumption | exact ⟨Nat.le_of_ble_eq_true rfl, rfl⟩) rfl ⟨Nat.le_of_ble_eq_true rfl, Nat.le_of_ble_eq_true rfl⟩ (Nat.le_of_ble_eq_true rfl) ⟨Nat.le_of_ble_eq_true rfl, Nat.le_of_ble_eq_true rfl⟩ (fun I33 L33 h33 => ?_)
      obtain ⟨g1, g2, rfl⟩ := h33
      refine hret _ _ _ _ dX0_tellNothing_36 ⟨⟨?_, ?_, g1, ?_⟩, rfl⟩
      · intro j hj
        rw [g2 (c + 1) (by omega), bq_sr_n (by omega)]; exact hK.1 j hj
      · rw [g2 c (by omega), bq_sr_s, pk_us]
      · intro x h1 h2 h3
        rw [g2 x h3, bq_sr_n h1]; exact hK.2 x h2
  refine bq_iconst (q := 1) (v := 0) G (by decide) dX0_tellNothing_0 rfl ?_
  refine bq_istore_n (q := 2) (ls' := [_, _]) G dX0_tellNothing_1 rfl (by decide) rfl rfl ?_
  have h := loop 0 (by omega)
  rw [gs_cp_0, bq_sr_id] at h
  exact h
set_option maxHeartbeats 1000000 in
set_option maxRecDepth 100000 in
theorem c_X0_copyFrom {z : Nat} {I : bq_IR} {L : bq_LR} {S : Nat → Int32} (hS : gs_Mr I 13 S) : bq_FV MX0_copyFrom z [.ref (z + 5), .ref (z + 11)] 85 (bq_Rf z) I L (fun J L' => ((∀ j, j < 5 → J 6 j = I 12 j) ∧ J 5 2 = I 11 2 ∧ gs_Mr J 7 S ∧ ∀ x, x ≠ 5 → x ≠ 6 → (x < 7 ∨ 10 < x) → J x = I x) ∧ L' = L) := by
  refine bq_FVof [some (.ref (z + 5)), some (.ref (z + 11)), none] rfl (Nat.le_of_ble_eq_true rfl) (by decide) rfl ?_
  intro A G hret
  have G : bq_Cx cX0_copyFrom RX0 3 z (bq_rm MX0_copyFrom 0 0) "copyFrom" A := G
  have loop : ∀ k, k ≤ 5 → A 0 0 2 [some (.ref (z + 5)), some (.ref (z + 11)), some (.int (nI k))] [] 85 (bq_Rf z) (bq_sr I 6 (gs_cp k (I 12) (I 6))) L := by
    refine bq_down 5 ?_
    intro k hk ih
    rcases Nat.lt_or_ge k 5 with hk8 | hk8
    · have ih := ih hk8
      refine bq_iload_n (q := 3) G rfl dX0_copyFrom_2 rfl ?_
      refine bq_iconst (q := 4) (v := 5) G (by decide) dX0_copyFrom_3 rfl ?_
      refine bq_icmp_ge_f (q := 7) (t := 25) G dX0_copyFrom_4 rfl (by decide) (nI_ge (a := k) (b := 5) hk8 (by decide)) ?_
      refine bq_aload_n (q := 8) G rfl dX0_copyFrom_7 rfl ?_
      refine bq_getr (q := 11) G dX0_copyFrom_8 rfl fl_X0_9 (by first | assumption | exact ⟨Nat.le_of_ble_eq_true rfl, rfl⟩) (fun _ _ _ => rfl) (rf_5_0 z) ?_
      refine bq_iload_n (q := 12) G rfl dX0_copyFrom_11 rfl ?_
      refine bq_aload_n (q := 13) G rfl dX0_copyFrom_12 rfl ?_
      refine bq_getr (q := 16) G dX0_copyFrom_13 rfl fl_X0_9 (by first | assumption | exact ⟨Nat.le_of_ble_eq_true rfl, rfl⟩) (fun _ _ _ => rfl) (rf_11_0 z) ?_
      refine bq_iload_n (q := 17) G rfl dX0_copyFrom_16 rfl ?_
      refine bq_iald (q := 18) (b := k) G dX0_copyFrom_17 rfl (by first | assumption | exact ⟨Nat.le_of_ble_eq_true rfl, rfl⟩) rfl hk8 (by decide) ?_
      rw [bq_srn1 (by decide)]
      refine bq_iast (q := 19) (b := k) G dX0_copyFrom_18 rfl (by first | assumption | exact ⟨Nat.le_of_ble_eq_true rfl, rfl⟩) rfl hk8 (by decide) ?_
      refine bq_iinc (q := 22) (ls' := [_, _, _]) G dX0_copyFrom_19 rfl rfl (by first | exact nI_1 _ | exact pk_m1 _ | rfl) (by decide) rfl rfl ?_
      refine bq_goto (q := 2) G dX0_copyFrom_22 (by decide) ?_
      rw [bq_sr_sr, bq_sr_s, gs_cp5]
      exact ih
    · have hk9 : k = 5 := by omega
      subst hk9
      refine bq_nameI (P := fun K => (∀ j, j < 5 → K 6 j = I 12 j) ∧ ∀ x, x ≠ 6 → K x = I x) ⟨fun j hj => by rw [bq_sr_s]; exact gs_cp_lt hj, fun x hx => bq_sr_n hx⟩ (fun K hK => ?_)
      refine bq_iload_n (q := 3) G rfl dX0_copyFrom_2 rfl ?_
      refine bq_iconst (q := 4) (v := 5) G (by decide) dX0_copyFrom_3 rfl ?_
      refine bq_icmp_ge_t (t := 25) G dX0_copyFrom_4 (by decide) (nI_le (a := 5) (b := 5) (by omega) (by decide)) ?_
      refine bq_aload_n (q := 26) G rfl dX0_copyFrom_25 rfl ?_
      refine bq_aload_n (q := 27) G rfl dX0_copyFrom_26 rfl ?_
      refine bq_geti (q := 30) G dX0_copyFrom_27 rfl fl_X0_26 (by first | assumption | exact ⟨Nat.le_of_ble_eq_true rfl, rfl⟩) rfl ?_
      refine bq_puti (q := 33) G dX0_copyFrom_30 rfl fl_X0_26 (by first | assumption | exact ⟨Nat.le_of_ble_eq_true rfl, rfl⟩) rfl rfl ?_
      refine bq_nameI (P := fun K' => K' 5 2 = I 11 2 ∧ ∀ x, x ≠ 5 → K' x = K x) ⟨by rw [bq_sr_s, pk_us, hK.2 11 (by decide)], fun x hx => bq_sr_n hx⟩ (fun K' hK' => ?_)
      have hall : ∀ x, x ≠ 5 → x ≠ 6 → K' x = I x := fun x a b => (hK'.2 x a).trans (hK.2 x b)
      have hS' : gs_Mr K' 13 S := hS.fr (fun x a b => hall x (by omega) (by omega))
      refine bq_aload_n (q := 34) G rfl dX0_copyFrom_33 rfl ?_
      refine bq_getr (q := 37) G dX0_copyFrom_34 rfl fl_X0_16 (by first | assumption | exact ⟨Nat.le_of_ble_eq_true rfl, rfl⟩) (fun _ _ _ => rfl) (rf_5_1 z) ?_
      refine bq_aload_n (q := 38) G rfl dX0_copyFrom_37 rfl ?_
      refine bq_getr (q := 41) G dX0_copyFrom_38 rfl fl_X0_16 (by first | assumption | exact ⟨Nat.le_of_ble_eq_true rfl, rfl⟩) (fun _ _ _ => rfl) (rf_11_1 z) ?_
      refine bq_callvV (q := 44) G dX0_copyFrom_41 rfl cl_X0_33 (c_X5_copyFrom (a := 7) (o := 13) (bq_Mo7 z) (bq_Mo13 z) (by decide) hS'.1) rfl (by first | assumption | exact ⟨Nat.le_of_ble_eq_true rfl, rfl⟩) rfl ⟨Nat.le_of_ble_eq_true rfl, Nat.le_of_ble_eq_true rfl⟩ (Nat.le_of_ble_eq_true rfl) ⟨Nat.le_of_ble_eq_true rfl, Nat.le_of_ble_eq_true rfl⟩ (fun I41 L41 h41 => ?_)
      obtain ⟨⟨g1, g2, g3⟩, g4, rfl⟩ := h41
      refine hret _ _ _ _ dX0_copyFrom_44 ⟨⟨?_, ?_, ⟨g1, g2.trans hS'.2.1, g3.trans hS'.2.2⟩, ?_⟩, rfl⟩
      · intro j hj
        rw [g4 6 (by decide), hK'.2 6 (by decide)]; exact hK.1 j hj
      · rw [g4 5 (by decide)]; exact hK'.1
      · intro x a b c
        rw [g4 x c]; exact hall x a b
  refine bq_iconst (q := 1) (v := 0) G (by decide) dX0_copyFrom_0 rfl ?_
  refine bq_istore_n (q := 2) (ls' := [_, _, _]) G dX0_copyFrom_1 rfl (by decide) rfl rfl ?_
  have h := loop 0 (by omega)
  rw [gs_cp_0, bq_sr_id] at h
  exact h
set_option maxHeartbeats 1000000 in
set_option maxRecDepth 100000 in
theorem c_X0_tellSetting {z : Nat} {I : bq_IR} {L : bq_LR} {i : Nat} {v : Int32} (hi : i < 5) : bq_FC MX0_tellSetting z [.ref (z + 11), .int (nI i), .int v] 85 (bq_Rf z) I L 0 0 none 85 (bq_Rf z) (bq_sr I 12 (upd (I 12) i v)) (L) := by
  refine bq_ofV [some (.ref (z + 11)), some (.int (nI i)), some (.int v)] rfl (Nat.le_of_ble_eq_true rfl) (by decide) rfl ?_
  intro A G hret
  have G : bq_Cx cX0_tellSetting RX0 3 z (bq_rm MX0_tellSetting 0 0) "tellSetting" A := G
  refine bq_iload_n (q := 1) G rfl dX0_tellSetting_0 rfl ?_
  refine bq_if_lt_f (q := 4) (t := 16) G dX0_tellSetting_1 rfl (by decide) (nI_pos (by omega)) ?_
  refine bq_iload_n (q := 5) G rfl dX0_tellSetting_4 rfl ?_
  refine bq_iconst (q := 6) (v := 5) G (by decide) dX0_tellSetting_5 rfl ?_
  refine bq_icmp_ge_f (q := 9) (t := 16) G dX0_tellSetting_6 rfl (by decide) (nI_ge (a := i) (b := 5) hi (by decide)) ?_
  refine bq_aload_n (q := 10) G rfl dX0_tellSetting_9 rfl ?_
  refine bq_getr (q := 13) G dX0_tellSetting_10 rfl fl_X0_9 (by first | assumption | exact ⟨Nat.le_of_ble_eq_true rfl, rfl⟩) (fun _ _ _ => rfl) (rf_11_0 z) ?_
  refine bq_iload_n (q := 14) G rfl dX0_tellSetting_13 rfl ?_
  refine bq_iload_n (q := 15) G rfl dX0_tellSetting_14 rfl ?_
  refine bq_iast (q := 16) (b := i) G dX0_tellSetting_15 rfl (by first | assumption | exact ⟨Nat.le_of_ble_eq_true rfl, rfl⟩) rfl hi (by decide) ?_
  exact hret _ _ dX0_tellSetting_16
set_option maxHeartbeats 1000000 in
set_option maxRecDepth 100000 in
theorem c_X0_tellBroom {z : Nat} {I : bq_IR} {L : bq_LR} {m : Nat} {u v w : Int32} {S : Nat → Int32} (hm : I 11 2 = nI m) (hm8 : m < 8) (hS : bq_MC I 13 S) : bq_FV MX0_tellBroom z [.ref (z + 11), .int u, .int v, .int w] 85 (bq_Rf z) I L (fun J L' => ((bq_MC J 13 (upd (upd (upd (upd S (3 + m) u) (11 + m) v) (19 + m) w) (51 + m) 1) ∧ J 13 0 = I 13 0 ∧ J 13 2 = I 13 2) ∧ J 11 2 = nI (m + 1) ∧ ∀ x, x ≠ 11 → (x < 13 ∨ 16 < x) → J x = I x) ∧ L' = L) := by
  refine bq_FVof [some (.ref (z + 11)), some (.int u), some (.int v), some (.int w)] rfl (Nat.le_of_ble_eq_true rfl) (by decide) rfl ?_
  intro A G hret
  have G : bq_Cx cX0_tellBroom RX0 4 z (bq_rm MX0_tellBroom 0 0) "tellBroom" A := G
  refine bq_aload_n (q := 1) G rfl dX0_tellBroom_0 rfl ?_
  refine bq_getr (q := 4) G dX0_tellBroom_1 rfl fl_X0_16 (by first | assumption | exact ⟨Nat.le_of_ble_eq_true rfl, rfl⟩) (fun _ _ _ => rfl) (rf_11_1 z) ?_
  refine bq_aload_n (q := 5) G rfl dX0_tellBroom_4 rfl ?_
  refine bq_geti (q := 8) G dX0_tellBroom_5 rfl fl_X0_26 (by first | assumption | exact ⟨Nat.le_of_ble_eq_true rfl, rfl⟩) rfl ?_
  refine bq_iload_n (q := 9) G rfl dX0_tellBroom_8 rfl ?_
  refine bq_iload_n (q := 10) G rfl dX0_tellBroom_9 rfl ?_
  refine bq_iload_n (q := 11) G rfl dX0_tellBroom_10 rfl ?_
  rw [hm]
  refine bq_callvV (q := 14) G dX0_tellBroom_11 rfl cl_X0_37 (c_X5_place (a := 13) (k := m) (bq_Mo13 z) hS hm8) rfl (by first | assumption | exact ⟨Nat.le_of_ble_eq_true rfl, rfl⟩) rfl ⟨Nat.le_of_ble_eq_true rfl, Nat.le_of_ble_eq_true rfl⟩ (Nat.le_of_ble_eq_true rfl) ⟨Nat.le_of_ble_eq_true rfl, Nat.le_of_ble_eq_true rfl⟩ (fun I11 L11 h11 => ?_)
  obtain ⟨⟨g1, g2, g3, _, _⟩, g4, rfl⟩ := h11
  have e : I11 11 2 = nI m := by rw [g4 11 (by decide)]; exact hm
  refine bq_aload_n (q := 15) G rfl dX0_tellBroom_14 rfl ?_
  refine bq_dup (q := 16) G rfl dX0_tellBroom_15 rfl ?_
  refine bq_geti (q := 19) G dX0_tellBroom_16 rfl fl_X0_26 (by first | assumption | exact ⟨Nat.le_of_ble_eq_true rfl, rfl⟩) rfl ?_
  refine bq_iconst (q := 20) (v := 1) G (by decide) dX0_tellBroom_19 rfl ?_
  refine bq_iadd (q := 21) G dX0_tellBroom_20 rfl ?_
  rw [e, nI_1]
  refine bq_puti (q := 24) G dX0_tellBroom_21 rfl fl_X0_26 (by first | assumption | exact ⟨Nat.le_of_ble_eq_true rfl, rfl⟩) rfl rfl ?_
  refine hret _ _ _ _ dX0_tellBroom_24 ⟨⟨⟨?_, ?_, ?_⟩, by rw [bq_sr_s, pk_us], fun x a b => by rw [bq_sr_n a]; exact g4 x b⟩, rfl⟩
  · exact g1.same (bq_sr_n (by decide)) (bq_sr_n (by decide)) (bq_sr_n (by decide)) (bq_sr_n (by decide))
  · rw [bq_srn1 (by decide)]; exact g2
  · rw [bq_srn1 (by decide)]; exact g3
set_option maxHeartbeats 1000000 in
set_option maxRecDepth 100000 in
theorem c_X0_begin {z : Nat} {I : bq_IR} {L : bq_LR} {S : Nat → Int32} (hS : bq_MC I 13 S) : bq_FV MX0_begin z [.ref (z + 11)] 85 (bq_Rf z) I L (fun J L' => (bq_MC J 13 (upd S 1 (I 12 0)) ∧ J 13 0 = I 13 0 ∧ J 13 2 = gs_hgt (I 12 1) (I 12 0) ∧ ∀ x, x ≠ 13 → J x = I x) ∧ L' = L) := by
  refine bq_FVof [some (.ref (z + 11))] rfl (Nat.le_of_ble_eq_true rfl) (by decide) rfl ?_
  intro A G hret
  have G : bq_Cx cX0_begin RX0 1 z (bq_rm MX0_begin 0 0) "begin" A := G
  have h1 := hS.water (I 12 0)
  refine bq_aload_n (q := 1) G rfl dX0_begin_0 rfl ?_
  refine bq_getr (q := 4) G dX0_begin_1 rfl fl_X0_16 (by first | assumption | exact ⟨Nat.le_of_ble_eq_true rfl, rfl⟩) (fun _ _ _ => rfl) (rf_11_1 z) ?_
  refine bq_aload_n (q := 5) G rfl dX0_begin_4 rfl ?_
  refine bq_getr (q := 8) G dX0_begin_5 rfl fl_X0_9 (by first | assumption | exact ⟨Nat.le_of_ble_eq_true rfl, rfl⟩) (fun _ _ _ => rfl) (rf_11_0 z) ?_
  refine bq_iconst (q := 9) (v := 0) G (by decide) dX0_begin_8 rfl ?_
  refine bq_iald (q := 10) (b := 0) G dX0_begin_9 rfl (by first | assumption | exact ⟨Nat.le_of_ble_eq_true rfl, rfl⟩) rfl (by decide) (by decide) ?_
  refine bq_puti (q := 13) G dX0_begin_10 rfl fl_X0_41 (by first | assumption | exact ⟨Nat.le_of_ble_eq_true rfl, rfl⟩) rfl rfl ?_
  refine bq_nameI (P := fun K => bq_MC K 13 (upd S 1 (I 12 0)) ∧ K 13 1 = I 12 0 ∧ K 13 0 = I 13 0 ∧ ∀ x, x ≠ 13 → K x = I x) ⟨h1, by rw [bq_sru, if_pos rfl], by rw [bq_sru, if_neg (by decide)], fun x hx => bq_sr_n hx⟩ (fun K hK => ?_)
  obtain ⟨k1, k2, k3, k4⟩ := hK
  refine bq_aload_n (q := 14) G rfl dX0_begin_13 rfl ?_
  refine bq_getr (q := 17) G dX0_begin_14 rfl fl_X0_16 (by first | assumption | exact ⟨Nat.le_of_ble_eq_true rfl, rfl⟩) (fun _ _ _ => rfl) (rf_11_1 z) ?_
  refine bq_aload_n (q := 18) G rfl dX0_begin_17 rfl ?_
  refine bq_aload_n (q := 19) G rfl dX0_begin_18 rfl ?_
  refine bq_getr (q := 22) G dX0_begin_19 rfl fl_X0_16 (by first | assumption | exact ⟨Nat.le_of_ble_eq_true rfl, rfl⟩) (fun _ _ _ => rfl) (rf_11_1 z) ?_
  refine bq_geti (q := 25) G dX0_begin_22 rfl fl_X0_41 (by first | assumption | exact ⟨Nat.le_of_ble_eq_true rfl, rfl⟩) rfl ?_
  refine bq_callv (q := 28) G dX0_begin_25 rfl cl_X0_44 (c_X0_heightOf (bq_Ce11 z)) rfl (by first | assumption | exact ⟨Nat.le_of_ble_eq_true rfl, rfl⟩) rfl ⟨Nat.le_of_ble_eq_true rfl, Nat.le_of_ble_eq_true rfl⟩ (Nat.le_of_ble_eq_true rfl) ⟨Nat.le_of_ble_eq_true rfl, Nat.le_of_ble_eq_true rfl⟩ rfl ?_
  rw [k2, show K (11 + 1) 1 = I 12 1 from congrFun (k4 12 (by decide)) 1]
  refine bq_puti (q := 31) G dX0_begin_28 rfl fl_X0_48 (by first | assumption | exact ⟨Nat.le_of_ble_eq_true rfl, rfl⟩) rfl rfl ?_
  refine hret _ _ _ _ dX0_begin_31 ⟨⟨k1.oth 2 _ (Or.inr (Or.inl rfl)), by rw [bq_sru, if_neg (by decide)]; exact k3, by rw [bq_sru, if_pos rfl], fun x hx => by rw [bq_sr_n hx]; exact k4 x hx⟩, rfl⟩
set_option maxHeartbeats 1000000 in
set_option maxRecDepth 100000 in
theorem c_X7_isWithin {z : Nat} {I : bq_IR} {L : bq_LR} {j : Nat} (hj : j < 8) : bq_FC MX7_isWithin z [.ref (z + 3), .int (nI j)] 85 (bq_Rf z) I L 0 0 (some (.int (if cf_l j ≤ I 3 4 ∧ I 3 4 ≤ cf_h j then 1 else 0))) 85 (bq_Rf z) (I) (L) := by
  refine bq_ofI [some (.ref (z + 3)), some (.int (nI j))] rfl (Nat.le_of_ble_eq_true rfl) (by decide) rfl (by first | rfl | exact bq_nb _ | (split <;> rfl)) ?_
  intro A G hret
  have G : bq_Cx cX7_isWithin RX7 2 z (bq_rm MX7_isWithin 0 0) "isWithin" A := G
  refine bq_iload_n (q := 1) G rfl dX7_isWithin_0 rfl ?_
  refine bq_if_lt_f (q := 4) (t := 48) G dX7_isWithin_1 rfl (by decide) (nI_pos (by omega)) ?_
  refine bq_iload_n (q := 5) G rfl dX7_isWithin_4 rfl ?_
  refine bq_gets (q := 8) G dX7_isWithin_5 rfl fs_X7_80 (Or.inr (Or.inl ⟨rfl, rfl, rfl, rfl⟩)) (fun t5 ht5 => ?_)
  refine ht5.2 _ _ 8 9 _ _ _ _ _ _ dX7_isWithin_8 rfl ?_
  refine bq_icmp_ge_f (q := 12) (t := 48) G dX7_isWithin_9 rfl (by decide) (nI_ge (a := j) (b := 8) hj (by decide)) ?_
  refine bq_iload_n (q := 13) G rfl dX7_isWithin_12 rfl ?_
  refine bq_gets (q := 16) G dX7_isWithin_13 rfl fs_X7_83 (Or.inr (Or.inr ⟨rfl, rfl, rfl, rfl⟩)) (fun t13 ht13 => ?_)
  refine ht13.2 _ _ 16 17 _ _ _ _ _ _ dX7_isWithin_16 rfl ?_
  refine bq_icmp_ge_f (q := 20) (t := 48) G dX7_isWithin_17 rfl (by decide) (nI_ge (a := j) (b := 8) hj (by decide)) ?_
  refine bq_aload_n (q := 21) G rfl dX7_isWithin_20 rfl ?_
  refine bq_geti (q := 24) G dX7_isWithin_21 rfl fl_X7_69 (by first | assumption | exact ⟨Nat.le_of_ble_eq_true rfl, rfl⟩) rfl ?_
  refine bq_gets (q := 27) G dX7_isWithin_24 rfl fs_X7_80 (Or.inr (Or.inl ⟨rfl, rfl, rfl, rfl⟩)) (fun t24 ht24 => ?_)
  refine bq_iload_n (q := 28) G rfl dX7_isWithin_27 rfl ?_
  refine ht24.1 _ _ 28 29 _ _ _ _ _ _ _ dX7_isWithin_28 rfl hj ?_
  refine bq_top (show bq_LE j = .int (cf_l j) from rfl) ?_
  refine bq_icmp_lt (t := 48) (q := 32) G dX7_isWithin_29 (by decide) rfl (fun c29 => ?_) (fun c29 => ?_)
  · refine bq_iconst (q := 49) (v := 0) G (by decide) dX7_isWithin_48 rfl ?_
    exact bq_ri (hret _ _ dX7_isWithin_49) (by rw [if_neg (fun h => absurd h.1 (Int32.not_le.mpr c29))]) rfl rfl
  · refine bq_aload_n (q := 33) G rfl dX7_isWithin_32 rfl ?_
    refine bq_geti (q := 36) G dX7_isWithin_33 rfl fl_X7_69 (by first | assumption | exact ⟨Nat.le_of_ble_eq_true rfl, rfl⟩) rfl ?_
    refine bq_gets (q := 39) G dX7_isWithin_36 rfl fs_X7_83 (Or.inr (Or.inr ⟨rfl, rfl, rfl, rfl⟩)) (fun t36 ht36 => ?_)
    refine bq_iload_n (q := 40) G rfl dX7_isWithin_39 rfl ?_
    refine ht36.1 _ _ 40 41 _ _ _ _ _ _ _ dX7_isWithin_40 rfl hj ?_
    refine bq_top (show bq_GR j = .int (cf_h j) from rfl) ?_
    refine bq_icmp_gt (t := 48) (q := 44) G dX7_isWithin_41 (by decide) rfl (fun c41 => ?_) (fun c41 => ?_)
    · refine bq_iconst (q := 49) (v := 0) G (by decide) dX7_isWithin_48 rfl ?_
      exact bq_ri (hret _ _ dX7_isWithin_49) (by rw [if_neg (fun h => absurd h.2 (Int32.not_le.mpr c41))]) rfl rfl
    · refine bq_iconst (q := 45) (v := 1) G (by decide) dX7_isWithin_44 rfl ?_
      refine bq_goto (q := 49) G dX7_isWithin_45 (by decide) ?_
      exact bq_ri (hret _ _ dX7_isWithin_49) (by rw [if_pos ⟨Int32.not_lt.mp c29, Int32.not_lt.mp c41⟩]) rfl rfl
set_option maxHeartbeats 1000000 in
set_option maxRecDepth 100000 in
theorem c_X7_isOneTooMany {z : Nat} {I : bq_IR} {L : bq_LR} {i : Nat} (hi : i < 6) : bq_FI MX7_isOneTooMany z [.ref (z + 3), .int (nI i), .ref (z + 11)] 85 (bq_Rf z) I L (fun r J L' => ((r = 1 ∧ ((i = 5 ∧ 8 ≤ I 11 2) ∨ (¬ i = 5 ∧ I 3 5 >>> (nI i &&& 31) &&& 1 = 1))) ∨ (r = 0 ∧ ¬ ((i = 5 ∧ 8 ≤ I 11 2) ∨ (¬ i = 5 ∧ I 3 5 >>> (nI i &&& 31) &&& 1 = 1)))) ∧ J = I ∧ L' = L) := by
  refine bq_FIof [some (.ref (z + 3)), some (.int (nI i)), some (.ref (z + 11))] rfl (Nat.le_of_ble_eq_true rfl) (by decide) rfl (fun _ _ _ h => by rcases h.1 with ⟨h, _⟩ | ⟨h, _⟩ <;> rw [h] <;> rfl) ?_
  intro A G hret
  have G : bq_Cx cX7_isOneTooMany RX7 3 z (bq_rm MX7_isOneTooMany 0 0) "isOneTooMany" A := G
  refine bq_iload_n (q := 1) G rfl dX7_isOneTooMany_0 rfl ?_
  refine bq_iconst (q := 2) (v := 5) G (by decide) dX7_isOneTooMany_1 rfl ?_
  refine bq_icmp_ne (t := 22) (q := 5) G dX7_isOneTooMany_2 (by decide) rfl (fun c2 => ?_) (fun c2 => ?_)
  · have h5 : ¬ i = 5 := fun h => c2 (by rw [h]; rfl)
    refine bq_aload_n (q := 23) G rfl dX7_isOneTooMany_22 rfl ?_
    refine bq_geti (q := 26) G dX7_isOneTooMany_23 rfl fl_X7_24 (by first | assumption | exact ⟨Nat.le_of_ble_eq_true rfl, rfl⟩) rfl ?_
    refine bq_iload_n (q := 27) G rfl dX7_isOneTooMany_26 rfl ?_
    refine bq_callsN (q := 30) G dX7_isOneTooMany_27 rfl (by first | exact Or.inl ⟨rfl, rfl⟩ | exact Or.inr ⟨rfl, rfl⟩) (c_X8_bitOf) rfl rfl ⟨Nat.le_of_ble_eq_true rfl, Nat.le_of_ble_eq_true rfl⟩ (Nat.le_of_ble_eq_true rfl) ⟨Nat.le_of_ble_eq_true rfl, Nat.le_of_ble_eq_true rfl⟩ rfl ?_
    refine bq_iconst (q := 31) (v := 1) G (by decide) dX7_isOneTooMany_30 rfl ?_
    refine bq_icmp_ne (t := 38) (q := 34) G dX7_isOneTooMany_31 (by decide) rfl (fun c31 => ?_) (fun c31 => ?_)
    · refine bq_iconst (q := 39) (v := 0) G (by decide) dX7_isOneTooMany_38 rfl ?_
      exact hret _ _ _ _ _ dX7_isOneTooMany_39 ⟨Or.inr ⟨rfl, fun h => h.elim (fun h => h5 h.1) (fun h => c31 h.2)⟩, rfl, rfl⟩
    · refine bq_iconst (q := 35) (v := 1) G (by decide) dX7_isOneTooMany_34 rfl ?_
      refine bq_goto (q := 39) G dX7_isOneTooMany_35 (by decide) ?_
      exact hret _ _ _ _ _ dX7_isOneTooMany_39 ⟨Or.inl ⟨rfl, Or.inr ⟨h5, c31⟩⟩, rfl, rfl⟩
  · have h5 : i = 5 := (nI_eq (b := 5) (by omega) (by decide)).mp c2
    refine bq_aload_n (q := 6) G rfl dX7_isOneTooMany_5 rfl ?_
    refine bq_geti (q := 9) G dX7_isOneTooMany_6 rfl fl_X7_58 (by first | assumption | exact ⟨Nat.le_of_ble_eq_true rfl, rfl⟩) rfl ?_
    refine bq_bipush (q := 11) (v := 8) G (by decide) dX7_isOneTooMany_9 rfl ?_
    refine bq_icmp_lt (t := 18) (q := 14) G dX7_isOneTooMany_11 (by decide) rfl (fun c11 => ?_) (fun c11 => ?_)
    · refine bq_iconst (q := 19) (v := 0) G (by decide) dX7_isOneTooMany_18 rfl ?_
      refine bq_goto (q := 39) G dX7_isOneTooMany_19 (by decide) ?_
      exact hret _ _ _ _ _ dX7_isOneTooMany_39 ⟨Or.inr ⟨rfl, fun h => h.elim (fun h => absurd h.2 (Int32.not_le.mpr c11)) (fun h => h.1 h5)⟩, rfl, rfl⟩
    · refine bq_iconst (q := 15) (v := 1) G (by decide) dX7_isOneTooMany_14 rfl ?_
      refine bq_goto (q := 39) G dX7_isOneTooMany_15 (by decide) ?_
      exact hret _ _ _ _ _ dX7_isOneTooMany_39 ⟨Or.inl ⟨rfl, Or.inl ⟨h5, Int32.not_lt.mp c11⟩⟩, rfl, rfl⟩
