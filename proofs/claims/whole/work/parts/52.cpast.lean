/-! the class does -/
def gs_Mr (I : bq_IR) (a : Nat) (S : Nat → Int32) : Prop := bq_MC I a S ∧ I a 0 = S 0 ∧ I a 2 = S 2
theorem gs_Mr.same {I J : bq_IR} {a : Nat} {S : Nat → Int32} (h : gs_Mr I a S) (h0 : J a = I a) (h1 : J (a + 1) = I (a + 1)) (h2 : J (a + 2) = I (a + 2)) (h3 : J (a + 3) = I (a + 3)) : gs_Mr J a S := ⟨h.1.same h0 h1 h2 h3, by rw [h0]; exact h.2.1, by rw [h0]; exact h.2.2⟩
theorem gs_Mr.fr {I J : bq_IR} {a : Nat} {S : Nat → Int32} (h : gs_Mr I a S) (hx : ∀ x, a ≤ x → x ≤ a + 3 → J x = I x) : gs_Mr J a S := h.same (hx _ (by omega) (by omega)) (hx _ (by omega) (by omega)) (hx _ (by omega) (by omega)) (hx _ (by omega) (by omega))
theorem gs_Mr.row {I : bq_IR} {a : Nat} {S S' : Nat → Int32} (h : gs_Mr I a S) (hS : ∀ j, j < 59 → S' j = S j) : gs_Mr I a S' := ⟨h.1.row fun j hj _ _ => hS j hj, by rw [hS 0 (by decide)]; exact h.2.1, by rw [hS 2 (by decide)]; exact h.2.2⟩
theorem bq_MoR (z : Nat) {i : Nat} (hi : i < 8) : bq_Mo z 85 (bq_Rf z) (27 + 4 * i) := by
  rcases (show i = 0 ∨ i = 1 ∨ i = 2 ∨ i = 3 ∨ i = 4 ∨ i = 5 ∨ i = 6 ∨ i = 7 by omega) with rfl | rfl | rfl | rfl | rfl | rfl | rfl | rfl
  · exact bq_Mo27 z
  · exact bq_Mo31 z
  · exact bq_Mo35 z
  · exact bq_Mo39 z
  · exact bq_Mo43 z
  · exact bq_Mo47 z
  · exact bq_Mo51 z
  · exact bq_Mo55 z
theorem bq_MoI (z : Nat) {i : Nat} (hi : i < 2) : bq_Mo z 85 (bq_Rf z) (60 + 4 * i) := by
  rcases (show i = 0 ∨ i = 1 by omega) with rfl | rfl
  · exact bq_Mo60 z
  · exact bq_Mo64 z
def gs_cD (I : bq_IR) (p l : Nat) (S S' : Nat → Int32) (J : bq_IR) : Prop := gs_Mr J 17 S' ∧ (J 25 1 = nI (gs_kn p) ∧ J 25 2 = nI ((l + 1) % 8)) ∧ gs_Mr J (27 + 4 * ((l + 1) % 8)) S ∧ ∀ x, (x < 17 ∨ 20 < x) → x ≠ 25 → (x < 27 + 4 * ((l + 1) % 8) ∨ 27 + 4 * ((l + 1) % 8) + 3 < x) → J x = I x
theorem gs_cD.put {I J K : bq_IR} {p l : Nat} {S S' S'' : Nat → Int32} (h : gs_cD I p l S S' J) (hK : gs_Mr K 17 S'') (hx : ∀ x, (x < 17 ∨ 20 < x) → K x = J x) : gs_cD I p l S S'' K := by
  obtain ⟨h1, h2, h3, h4⟩ := h
  refine ⟨hK, by rw [hx 25 (by decide)]; exact h2, h3.fr (fun x a b => hx x (by omega)), fun x a b c => (hx x a).trans (h4 x a b c)⟩
theorem jd_kn : ∀ p, p < 9 → (if nI p + 1 < 8 then nI p + 1 else 8) = nI (gs_kn p) := by decide +kernel
theorem gs_st_lo {b : Nat} {x : gs_X} {j : Nat} (hj : j = 0 ∨ j = 2) : (gs_st b x).1 j = x.1 j := by
  unfold gs_st
  split
  · show gs_2 b (gs_1 b x.1) j = _
    unfold gs_2 gs_1
    rw [pk_un (by omega), pk_un (by omega), pk_un (by omega), pk_un (by omega)]
  · show gs_1 b x.1 j = x.1 j
    unfold gs_1
    rw [pk_un (by omega)]
theorem gs_lp_lo {x : gs_X} {j : Nat} (hj : j = 0 ∨ j = 2) : ∀ k, (gs_lp k x).1 j = x.1 j
  | 0 => rfl
  | k + 1 => (gs_st_lo hj).trans (gs_lp_lo hj k)
theorem gs_min_2 {w d : Int32} {S : Nat → Int32} : gs_min w d S 2 = S 2 := by
  have h := gs_lp_lo (x := (S, w, 0)) (j := 2) (Or.inr rfl) 8
  unfold gs_min
  rw [pk_un (by omega), pk_un (by omega)]
  unfold gs_T
  exact h
theorem gs_min_0 {w d : Int32} {S : Nat → Int32} : gs_min w d S 0 = S 0 + 1 := by
  have h := gs_lp_lo (x := (S, w, 0)) (j := 0) (Or.inl rfl) 8
  unfold gs_min
  rw [pk_us]
  unfold gs_T
  rw [h]
theorem gs_o_lt (S : Nat → Int32) : gs_o S < 8 := by
  unfold gs_o
  rcases gs_fk_or S 8 0 with e | ⟨o, h1, h2, e, _⟩
  · rw [e]; decide
  · rw [e, nI_clamp (by omega)]; omega
theorem gs_sp_lo {k : Nat} {S : Nat → Int32} {j : Nat} (hj : j < 3) : gs_sp k S j = S j := by
  unfold gs_sp
  split
  · rw [pk_un (by omega)]
  · rw [gs_c7_out (gs_o_lt S) 7 j (fun i hi => by omega)]
    unfold gs_s1
    rw [pk_un (by omega), pk_un (by omega)]
theorem gs_can {S : Nat → Int32} (hS : gs_Ok S) {k : Nat} (hk : k < 8) (h1 : S (51 + k) = 1) : (S (51 + k) = 1 ∧ (S (3 + k) ≤ 1 ∨ 0 ≤ gs_fk S 8 0)) ↔ (S (3 + k) = 1 ∨ ¬ gs_fk S 8 0 = -9) := by
  have h3 := ((hS.2 k hk).2.1 h1).1
  have e : ¬ gs_fk S 8 0 = -9 ↔ 0 ≤ gs_fk S 8 0 := by rw [← gs_fk_neg]; exact Int32.not_lt
  rw [e]
  constructor
  · rintro ⟨-, h | h⟩
    · exact Or.inl (Int32.le_antisymm h h3)
    · exact Or.inr h
  · rintro (h | h)
    · exact ⟨h1, Or.inl (by rw [h]; decide)⟩
    · exact ⟨h1, Or.inr h⟩
set_option maxHeartbeats 1000000 in
set_option maxRecDepth 100000 in
theorem c_X6_remember {z : Nat} {I : bq_IR} {L : bq_LR} {p l : Nat} {S : Nat → Int32} (hM : gs_Mr I 17 S) (hp : I 25 1 = nI p) (hp8 : p ≤ 8) (hl : I 25 2 = nI l) (hl8 : l < 8) : bq_FV MX6_remember z [.ref (z + 25), .ref (z + 17)] 85 (bq_Rf z) I L (fun J L' => gs_cD I p l S S J ∧ L' = L) := by
  refine bq_FVof [some (.ref (z + 25)), some (.ref (z + 17)), none] rfl (Nat.le_of_ble_eq_true rfl) (by decide) rfl ?_
  intro A G hret
  have G : bq_Cx cX6_remember RX6 3 z (bq_rm MX6_remember 0 0) "remember" A := G
  have hs : (l + 1) % 8 < 8 := Nat.mod_lt _ (by decide)
  generalize hs' : (l + 1) % 8 = s at hs
  have hMo := bq_MoR z hs
  have ho := hMo.1
  refine bq_aload_n (q := 1) G rfl dX6_remember_0 rfl ?_
  refine bq_aload_n (q := 2) G rfl dX6_remember_1 rfl ?_
  refine bq_geti (q := 5) G dX6_remember_2 rfl fl_X6_16 (by first | assumption | exact ⟨Nat.le_of_ble_eq_true rfl, rfl⟩) rfl ?_
  refine bq_iconst (q := 6) (v := 1) G (by decide) dX6_remember_5 rfl ?_
  refine bq_iadd (q := 7) G dX6_remember_6 rfl ?_
  refine bq_bipush (q := 9) (v := 8) G (by decide) dX6_remember_7 rfl ?_
  refine bq_calls (q := 12) G dX6_remember_9 rfl cl_X6_20 (c_J9_floorMod_7cf53 (by decide)) rfl rfl ⟨Nat.le_of_ble_eq_true rfl, Nat.le_of_ble_eq_true rfl⟩ (Nat.le_of_ble_eq_true rfl) ⟨Nat.le_of_ble_eq_true rfl, Nat.le_of_ble_eq_true rfl⟩ rfl ?_
  rw [hl, (jd_fmx l hl8).1, hs']
  refine bq_puti (q := 15) G dX6_remember_12 rfl fl_X6_16 (by first | assumption | exact ⟨Nat.le_of_ble_eq_true rfl, rfl⟩) rfl rfl ?_
  refine bq_aload_n (q := 16) G rfl dX6_remember_15 rfl ?_
  refine bq_getr (q := 19) G dX6_remember_16 rfl fl_X6_11 (by first | assumption | exact ⟨Nat.le_of_ble_eq_true rfl, rfl⟩) (fun _ _ _ => rfl) (rf_25_0 z) ?_
  refine bq_aload_n (q := 20) G rfl dX6_remember_19 rfl ?_
  refine bq_geti (q := 23) G dX6_remember_20 rfl fl_X6_16 (by first | assumption | exact ⟨Nat.le_of_ble_eq_true rfl, rfl⟩) rfl ?_
  refine bq_aald (q := 24) (b := s) G dX6_remember_23 rfl (by first | assumption | exact ⟨Nat.le_of_ble_eq_true rfl, rfl⟩) (by rw [bq_sru, if_pos rfl]) hs (by decide) (if_pos hs) ?_
  refine bq_astore_n (q := 25) (ls' := [_, _, _]) G dX6_remember_24 rfl (by decide) rfl rfl ?_
  refine bq_nameI (P := fun K => K 25 1 = nI p ∧ K 25 2 = nI s ∧ ∀ x, x ≠ 25 → K x = I x) ⟨by rw [bq_sru, if_neg (by decide), hp], by rw [bq_sru, if_pos rfl], fun x hx => bq_sr_n hx⟩ (fun K hK => ?_)
  obtain ⟨k1, k2, k3⟩ := hK
  refine bq_aload_n (q := 26) G rfl dX6_remember_25 rfl ?_
  refine bq_ifnull (q := 29) G dX6_remember_26 rfl ?_
  refine bq_aload_n (q := 30) G rfl dX6_remember_29 rfl ?_
  refine bq_aload_n (q := 31) G rfl dX6_remember_30 rfl ?_
  refine bq_callvV (q := 34) G dX6_remember_31 rfl cl_X6_26 (c_X5_copyFrom (a := 27 + 4 * s) (o := 17) hMo (bq_Mo17 z) (by omega) (hM.1.same (k3 _ (by decide)) (k3 _ (by decide)) (k3 _ (by decide)) (k3 _ (by decide)))) rfl (by first | assumption | exact ⟨Nat.le_of_ble_eq_true rfl, rfl⟩) rfl ⟨Nat.le_of_ble_eq_true rfl, Nat.le_of_ble_eq_true rfl⟩ (Nat.le_of_ble_eq_true rfl) ⟨Nat.le_of_ble_eq_true rfl, Nat.le_of_ble_eq_true rfl⟩ (fun I31 L31 h31 => ?_)
  obtain ⟨⟨h1, h2, h3⟩, h4, rfl⟩ := h31
  have e1 : I31 25 1 = nI p := by rw [h4 25 (by omega)]; exact k1
  refine bq_aload_n (q := 35) G rfl dX6_remember_34 rfl ?_
  refine bq_bipush (q := 37) (v := 8) G (by decide) dX6_remember_35 rfl ?_
  refine bq_aload_n (q := 38) G rfl dX6_remember_37 rfl ?_
  refine bq_geti (q := 41) G dX6_remember_38 rfl fl_X6_30 (by first | assumption | exact ⟨Nat.le_of_ble_eq_true rfl, rfl⟩) rfl ?_
  refine bq_iconst (q := 42) (v := 1) G (by decide) dX6_remember_41 rfl ?_
  refine bq_iadd (q := 43) G dX6_remember_42 rfl ?_
  refine bq_calls (q := 46) G dX6_remember_43 rfl cl_X6_33 (c_J9_min_7cf53) rfl rfl ⟨Nat.le_of_ble_eq_true rfl, Nat.le_of_ble_eq_true rfl⟩ (Nat.le_of_ble_eq_true rfl) ⟨Nat.le_of_ble_eq_true rfl, Nat.le_of_ble_eq_true rfl⟩ rfl ?_
  rw [e1, jd_kn p (by omega)]
  refine bq_puti (q := 49) G dX6_remember_46 rfl fl_X6_30 (by first | assumption | exact ⟨Nat.le_of_ble_eq_true rfl, rfl⟩) rfl rfl ?_
  refine hret _ _ _ _ dX6_remember_49 ⟨?_, rfl⟩
  unfold gs_cD
  rw [hs']
  have hx : ∀ x, x ≠ 25 → (x < 27 + 4 * s ∨ 27 + 4 * s + 3 < x) → bq_sr I31 25 (upd (I31 25) 1 (nI (gs_kn p))) x = I x := fun x a b => by rw [bq_sr_n a, h4 x b, k3 x a]
  refine ⟨hM.fr (fun x a b => hx x (by omega) (by omega)), ⟨by rw [bq_sru, if_pos rfl], by rw [bq_sru, if_neg (by decide), h4 25 (by omega)]; exact k2⟩, ?_, fun x a b c => hx x b c⟩
  have hn : ∀ x, x ≠ 25 → bq_sr I31 25 (upd (I31 25) 1 (nI (gs_kn p))) x = I31 x := fun x a => bq_sr_n a
  refine gs_Mr.fr (I := I31) ⟨h1, ?_, ?_⟩ (fun x a b => hn x (by omega))
  · rw [h2, k3 17 (by decide)]; exact hM.2.1
  · rw [h3, k3 17 (by decide)]; exact hM.2.2
set_option maxHeartbeats 1000000 in
set_option maxRecDepth 100000 in
theorem c_X6_bringBack {z : Nat} {I : bq_IR} {L : bq_LR} {p l : Nat} {S : Nat → Int32} (hM : gs_Mr I (27 + 4 * l) S) (hp : I 25 1 = nI (p + 1)) (hp8 : p < 8) (hl : I 25 2 = nI l) (hl8 : l < 8) : bq_FV MX6_bringBack z [.ref (z + 25), .ref (z + 17)] 85 (bq_Rf z) I L (fun J L' => (gs_Mr J 17 S ∧ (J 25 1 = nI p ∧ J 25 2 = nI ((l + 7) % 8)) ∧ ∀ x, (x < 17 ∨ 20 < x) → x ≠ 25 → J x = I x) ∧ L' = L) := by
  refine bq_FVof [some (.ref (z + 25)), some (.ref (z + 17)), none] rfl (Nat.le_of_ble_eq_true rfl) (by decide) rfl ?_
  intro A G hret
  have G : bq_Cx cX6_bringBack RX6 3 z (bq_rm MX6_bringBack 0 0) "bringBack" A := G
  have hMo := bq_MoR z hl8
  have ho := hMo.1
  refine bq_aload_n (q := 1) G rfl dX6_bringBack_0 rfl ?_
  refine bq_getr (q := 4) G dX6_bringBack_1 rfl fl_X6_11 (by first | assumption | exact ⟨Nat.le_of_ble_eq_true rfl, rfl⟩) (fun _ _ _ => rfl) (rf_25_0 z) ?_
  refine bq_aload_n (q := 5) G rfl dX6_bringBack_4 rfl ?_
  refine bq_geti (q := 8) G dX6_bringBack_5 rfl fl_X6_16 (by first | assumption | exact ⟨Nat.le_of_ble_eq_true rfl, rfl⟩) rfl ?_
  refine bq_aald (q := 9) (b := l) G dX6_bringBack_8 rfl (by first | assumption | exact ⟨Nat.le_of_ble_eq_true rfl, rfl⟩) hl hl8 (by decide) (if_pos hl8) ?_
  refine bq_astore_n (q := 10) (ls' := [_, _, _]) G dX6_bringBack_9 rfl (by decide) rfl rfl ?_
  refine bq_aload_n (q := 11) G rfl dX6_bringBack_10 rfl ?_
  refine bq_geti (q := 14) G dX6_bringBack_11 rfl fl_X6_30 (by first | assumption | exact ⟨Nat.le_of_ble_eq_true rfl, rfl⟩) rfl ?_
  refine bq_if_le_f (q := 17) (t := 51) G dX6_bringBack_14 rfl (by decide) (by rw [hp]; exact nI_nle (by omega) (by omega)) ?_
  refine bq_aload_n (q := 18) G rfl dX6_bringBack_17 rfl ?_
  refine bq_ifnull (q := 21) G dX6_bringBack_18 rfl ?_
  refine bq_aload_n (q := 22) G rfl dX6_bringBack_21 rfl ?_
  refine bq_aload_n (q := 23) G rfl dX6_bringBack_22 rfl ?_
  refine bq_callvV (q := 26) G dX6_bringBack_23 rfl cl_X6_26 (c_X5_copyFrom (a := 17) (o := 27 + 4 * l) (bq_Mo17 z) hMo (by omega) hM.1) rfl (by first | assumption | exact ⟨Nat.le_of_ble_eq_true rfl, rfl⟩) rfl ⟨Nat.le_of_ble_eq_true rfl, Nat.le_of_ble_eq_true rfl⟩ (Nat.le_of_ble_eq_true rfl) ⟨Nat.le_of_ble_eq_true rfl, Nat.le_of_ble_eq_true rfl⟩ (fun I23 L23 h23 => ?_)
  obtain ⟨⟨h1, h2, h3⟩, h4, rfl⟩ := h23
  have e1 : I23 25 1 = nI (p + 1) := by rw [h4 25 (by omega)]; exact hp
  have e2 : I23 25 2 = nI l := by rw [h4 25 (by omega)]; exact hl
  refine bq_aload_n (q := 27) G rfl dX6_bringBack_26 rfl ?_
  refine bq_aload_n (q := 28) G rfl dX6_bringBack_27 rfl ?_
  refine bq_geti (q := 31) G dX6_bringBack_28 rfl fl_X6_16 (by first | assumption | exact ⟨Nat.le_of_ble_eq_true rfl, rfl⟩) rfl ?_
  refine bq_iconst (q := 32) (v := 1) G (by decide) dX6_bringBack_31 rfl ?_
  refine bq_isub (q := 33) G dX6_bringBack_32 rfl ?_
  refine bq_bipush (q := 35) (v := 8) G (by decide) dX6_bringBack_33 rfl ?_
  refine bq_calls (q := 38) G dX6_bringBack_35 rfl cl_X6_20 (c_J9_floorMod_7cf53 (by decide)) rfl rfl ⟨Nat.le_of_ble_eq_true rfl, Nat.le_of_ble_eq_true rfl⟩ (Nat.le_of_ble_eq_true rfl) ⟨Nat.le_of_ble_eq_true rfl, Nat.le_of_ble_eq_true rfl⟩ rfl ?_
  rw [e2, (jd_fmx l hl8).2]
  refine bq_puti (q := 41) G dX6_bringBack_38 rfl fl_X6_16 (by first | assumption | exact ⟨Nat.le_of_ble_eq_true rfl, rfl⟩) rfl rfl ?_
  refine bq_aload_n (q := 42) G rfl dX6_bringBack_41 rfl ?_
  refine bq_dup (q := 43) G rfl dX6_bringBack_42 rfl ?_
  refine bq_geti (q := 46) G dX6_bringBack_43 rfl fl_X6_30 (by first | assumption | exact ⟨Nat.le_of_ble_eq_true rfl, rfl⟩) rfl ?_
  refine bq_iconst (q := 47) (v := 1) G (by decide) dX6_bringBack_46 rfl ?_
  refine bq_isub (q := 48) G dX6_bringBack_47 rfl ?_
  rw [bq_sru, if_neg (by decide), e1, nI_pred]
  refine bq_puti (q := 51) G dX6_bringBack_48 rfl fl_X6_30 (by first | assumption | exact ⟨Nat.le_of_ble_eq_true rfl, rfl⟩) rfl rfl ?_
  refine hret _ _ _ _ dX6_bringBack_51 ⟨⟨?_, ⟨by rw [bq_sru, if_pos rfl], by rw [bq_sru, if_neg (by decide), bq_sru, if_pos rfl]⟩, fun x a b => by rw [bq_sr_n b, bq_sr_n b, h4 x a]⟩, rfl⟩
  exact gs_Mr.fr (I := I23) ⟨h1, h2.trans hM.2.1, h3.trans hM.2.2⟩ (fun x a b => by rw [bq_sr_n (by omega), bq_sr_n (by omega)])
