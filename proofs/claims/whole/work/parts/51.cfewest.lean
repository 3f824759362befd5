set_option maxHeartbeats 1000000 in
set_option maxRecDepth 100000 in
theorem c_X8_helps {z : Nat} {I : bq_IR} {L : bq_LR} {x m : Nat} {bt bu : Int32} {T S : Nat → Int32} (hC : gs_CS I T S) (hx : x < 256) (hm : m ≤ 200) (hbt : bt = 0 ↔ ¬ bu = 0) : bq_FI MX8_helps z [.ref (z + 0), .int (nI x), .int bt, .int (nI m)] 85 (bq_Rf z) I L (fun r J L' => r = (if gs_mo (T 4) (T 2) (T 1) (gs_md bu (nI x) 8 S) m ≤ T 3 then 1 else 0) ∧ gs_cK I J ∧ L' = L) := by
  refine bq_FIof [some (.ref (z + 0)), some (.int (nI x)), some (.int bt), some (.int (nI m))] rfl (Nat.le_of_ble_eq_true rfl) (by decide) rfl (fun _ _ _ h => by rw [h.1]; split <;> rfl) ?_
  intro A G hret
  have G : bq_Cx cX8_helps RX8 4 z (bq_rm MX8_helps 0 0) "helps" A := G
  have tail : ∀ J, bq_MC J 21 (gs_md bu (nI x) 8 S) → gs_cK I J → A 0 0 39 [some (.ref (z + 0)), some (.int (nI x)), some (.int bt), some (.int (nI m))] [] 85 (bq_Rf z) J L := by
    intro J hM hJ
    have d2 : J (5 + 1) 2 = T 2 := (congrFun (hJ 6 (by decide)) 2).trans hC.1.2.2.1
    have d4 : J (5 + 1) 4 = T 4 := (congrFun (hJ 6 (by decide)) 4).trans hC.1.2.2.2.2
    refine bq_aload_n (q := 40) G rfl dX8_helps_39 rfl ?_
    refine bq_aload_n (q := 41) G rfl dX8_helps_40 rfl ?_
    refine bq_getr (q := 44) G dX8_helps_41 rfl fl_X8_26 (by first | assumption | exact ⟨Nat.le_of_ble_eq_true rfl, rfl⟩) (fun _ _ _ => rfl) (rf_0_2 z) ?_
    refine bq_callv (q := 47) G dX8_helps_44 rfl cl_X8_151 (c_X0_stairWidth (bq_Ce5 z)) rfl (by first | assumption | exact ⟨Nat.le_of_ble_eq_true rfl, rfl⟩) rfl ⟨Nat.le_of_ble_eq_true rfl, Nat.le_of_ble_eq_true rfl⟩ (Nat.le_of_ble_eq_true rfl) ⟨Nat.le_of_ble_eq_true rfl, Nat.le_of_ble_eq_true rfl⟩ rfl ?_
    refine bq_aload_n (q := 48) G rfl dX8_helps_47 rfl ?_
    refine bq_getr (q := 51) G dX8_helps_48 rfl fl_X8_26 (by first | assumption | exact ⟨Nat.le_of_ble_eq_true rfl, rfl⟩) (fun _ _ _ => rfl) (rf_0_2 z) ?_
    refine bq_callv (q := 54) G dX8_helps_51 rfl cl_X8_155 (c_X0_drainCups (bq_Ce5 z)) rfl (by first | assumption | exact ⟨Nat.le_of_ble_eq_true rfl, rfl⟩) rfl ⟨Nat.le_of_ble_eq_true rfl, Nat.le_of_ble_eq_true rfl⟩ (Nat.le_of_ble_eq_true rfl) ⟨Nat.le_of_ble_eq_true rfl, Nat.le_of_ble_eq_true rfl⟩ rfl ?_
    refine bq_iload_n (q := 55) G rfl dX8_helps_54 rfl ?_
    refine bq_callvI (q := 58) G dX8_helps_55 rfl cl_X8_200 (c_X8_staysAtMark (T := T) (S := gs_md bu (nI x) 8 S) ((congrFun (hJ 6 (by decide)) 1).trans hC.1.2.1) ((congrFun (hJ 6 (by decide)) 3).trans hC.1.2.2.2.1) hC.2.2.2.1 hM (hC.2.2.1.md bu (nI x)) (by rw [d2]; exact hC.2.2.2.2) hm) rfl (by first | assumption | exact ⟨Nat.le_of_ble_eq_true rfl, rfl⟩) rfl ⟨Nat.le_of_ble_eq_true rfl, Nat.le_of_ble_eq_true rfl⟩ (Nat.le_of_ble_eq_true rfl) ⟨Nat.le_of_ble_eq_true rfl, Nat.le_of_ble_eq_true rfl⟩ (fun r55 I55 L55 h55 => ?_)
    obtain ⟨rfl, h2, rfl⟩ := h55
    rw [d2, d4]
    exact hret _ _ _ _ _ dX8_helps_58 ⟨rfl, hJ.trans h2, rfl⟩
  refine bq_aload_n (q := 1) G rfl dX8_helps_0 rfl ?_
  refine bq_callvV (q := 4) G dX8_helps_1 rfl cl_X8_187 (c_X8_lookAhead hC) rfl (by first | assumption | exact ⟨Nat.le_of_ble_eq_true rfl, rfl⟩) rfl ⟨Nat.le_of_ble_eq_true rfl, Nat.le_of_ble_eq_true rfl⟩ (Nat.le_of_ble_eq_true rfl) ⟨Nat.le_of_ble_eq_true rfl, Nat.le_of_ble_eq_true rfl⟩ (fun I1 L1 h1 => ?_)
  obtain ⟨h0, rfl⟩ := h1
  obtain ⟨hM, hK⟩ := h0 0 0 0
  have hM : bq_MC I1 21 S := hM
  refine bq_iload_n (q := 5) G rfl dX8_helps_4 rfl ?_
  first | refine bq_ifb_eq (t := 24) (q := 8) G dX8_helps_5 (by decide) rfl (fun c5 => ?_) (fun c5 => ?_) | refine bq_if_eq (t := 24) (q := 8) G dX8_helps_5 (by decide) rfl (fun c5 => ?_) (fun c5 => ?_)
  · have hbu := hbt.mp c5
    refine bq_aload_n (q := 25) G rfl dX8_helps_24 rfl ?_
    refine bq_getr (q := 28) G dX8_helps_25 rfl fl_X8_40 (by first | assumption | exact ⟨Nat.le_of_ble_eq_true rfl, rfl⟩) (fun _ _ _ => rfl) (rf_0_5 z) ?_
    refine bq_dup (q := 29) G rfl dX8_helps_28 rfl ?_
    refine bq_geti (q := 32) G dX8_helps_29 rfl fl_X8_132 (by first | assumption | exact ⟨Nat.le_of_ble_eq_true rfl, rfl⟩) rfl ?_
    refine bq_iload_n (q := 33) G rfl dX8_helps_32 rfl ?_
    refine bq_iconst (q := 34) (v := -1) G (by decide) dX8_helps_33 rfl ?_
    refine bq_ixor (q := 35) G dX8_helps_34 rfl ?_
    refine bq_iand (q := 36) G dX8_helps_35 rfl ?_
    refine bq_puti (q := 39) G dX8_helps_36 rfl fl_X8_132 (by first | assumption | exact ⟨Nat.le_of_ble_eq_true rfl, rfl⟩) rfl rfl ?_
    refine tail _ (hM.there (hM.2.2.2.2.2.burn hbu hx) (fun j hj => gs_md_burn hbu hj)) (fun y hy => ?_)
    rw [bq_sr_n (by omega)]; exact hK y hy
  · have hbu : bu = 0 := Decidable.byContradiction fun h => c5 (hbt.mpr h)
    subst hbu
    refine bq_aload_n (q := 9) G rfl dX8_helps_8 rfl ?_
    refine bq_getr (q := 12) G dX8_helps_9 rfl fl_X8_40 (by first | assumption | exact ⟨Nat.le_of_ble_eq_true rfl, rfl⟩) (fun _ _ _ => rfl) (rf_0_5 z) ?_
    refine bq_dup (q := 13) G rfl dX8_helps_12 rfl ?_
    refine bq_geti (q := 16) G dX8_helps_13 rfl fl_X8_119 (by first | assumption | exact ⟨Nat.le_of_ble_eq_true rfl, rfl⟩) rfl ?_
    refine bq_iload_n (q := 17) G rfl dX8_helps_16 rfl ?_
    refine bq_ior (q := 18) G dX8_helps_17 rfl ?_
    refine bq_puti (q := 21) G dX8_helps_18 rfl fl_X8_119 (by first | assumption | exact ⟨Nat.le_of_ble_eq_true rfl, rfl⟩) rfl rfl ?_
    refine bq_goto (q := 39) G dX8_helps_21 (by decide) ?_
    refine tail _ (hM.out (hM.2.2.1.teach hx) (fun j hj => gs_md_teach hj)) (fun y hy => ?_)
    rw [bq_sr_n (by omega)]; exact hK y hy
theorem fe_up {bu : Int32} {T S : Nat → Int32} {m f : Nat} {x : Int32} (hf : f < 256) (hF : ∀ b, b < 8 → (f / 2 ^ b % 2 = 1 ↔ (S (51 + b) = 1 ∧ (if bu = 0 then S (27 + b) = 0 else S (43 + b) = 0)))) (h : gs_few bu T S m (f + 1) x) : ∀ d, f + 1 + d ≤ 256 → gs_few bu T S m (f + 1 + d) x
  | 0, _ => h
  | d + 1, hd => by
    have ih := fe_up hf hF h d (by omega)
    refine ⟨x, ih, Or.inr ⟨fun hw => ?_, rfl⟩⟩
    have hw : gs_fw bu T S m x (nI (f + 1 + d)) := hw
    have := tb_sub (x := f + 1 + d) (y := f) (by omega) (fun j hj hj1 => by
      rcases hw.2.1 j hj with h0 | h1
      · rw [(tb_b0 (by omega) hj).mp h0] at hj1; cases hj1
      · exact (hF j hj).mpr h1)
    omega
theorem fe_ok {bu : Int32} {S : Nat → Int32} {f k : Nat} (hk : k < 256) (hF : ∀ b, b < 8 → (f / 2 ^ b % 2 = 1 ↔ (S (51 + b) = 1 ∧ (if bu = 0 then S (27 + b) = 0 else S (43 + b) = 0)))) : nI k &&& (nI f ^^^ -1) = 0 ↔ ∀ b, b < 8 → gs_okb bu S (nI k) b := by
  rw [tb_an0 hk]
  constructor
  · intro h b hb
    rcases h b hb with h | h
    · exact Or.inl ((tb_b0 hk hb).mpr h)
    · exact Or.inr ((hF b hb).mp h)
  · intro h b hb
    rcases h b hb with h | h
    · exact Or.inl ((tb_b0 hk hb).mp h)
    · exact Or.inr ((hF b hb).mpr h)
def fe_c (x : Int32) : Int32 := if x = -9 then 9 else gs_on x 8
theorem fe_lt {k : Nat} (hk : k < 256) {x : Int32} (hx : x = -9 ∨ ∃ s : Nat, s < 256 ∧ x = nI s) : gs_on (nI k) 8 < fe_c x ↔ (x = -9 ∨ gs_on (nI k) 8 < gs_on x 8) := by
  unfold fe_c
  by_cases h : x = -9
  · rw [if_pos h]
    obtain ⟨c, hc, e⟩ := gs_on8 k hk
    rw [e]
    exact ⟨fun _ => Or.inl h, fun _ => nI_lt (b := 9) (by omega) (by decide)⟩
  · rw [if_neg h]
    exact ⟨fun h => Or.inr h, fun h2 => h2.resolve_left h⟩
set_option maxHeartbeats 1000000 in
set_option maxRecDepth 100000 in
theorem c_X8_fewest {z : Nat} {I : bq_IR} {L : bq_LR} {f : Nat} {bt bu n : Int32} {T S : Nat → Int32} (hC : gs_CS I T S) (hf : f < 256) (hbt : bt = 0 ↔ ¬ bu = 0) (hF : ∀ b, b < 8 → (f / 2 ^ b % 2 = 1 ↔ (S (51 + b) = 1 ∧ (if bu = 0 then S (27 + b) = 0 else S (43 + b) = 0)))) : bq_FI MX8_fewest z [.ref (z + 0), .int (nI f), .int bt, .int n] 85 (bq_Rf z) I L (fun r J L' => (((1 ≤ n ∧ n ≤ 60) → gs_few bu T S n.toNatClampNeg 256 r) ∧ (¬ (1 ≤ n ∧ n ≤ 60) → r = -1)) ∧ gs_cK I J ∧ L' = L) := by
  refine bq_FIof [some (.ref (z + 0)), some (.int (nI f)), some (.int bt), some (.int n), none, none, none, none] rfl (Nat.le_of_ble_eq_true rfl) (by decide) rfl (fun _ _ _ _ => rfl) ?_
  intro A G hret
  have G : bq_Cx cX8_fewest RX8 8 z (bq_rm MX8_fewest 0 0) "fewest" A := G
  refine bq_iload_n (q := 1) G rfl dX8_fewest_0 rfl ?_
  refine bq_calls (q := 4) G dX8_fewest_1 rfl cl_X8_197 (c_X8_isPlanned) rfl rfl ⟨Nat.le_of_ble_eq_true rfl, Nat.le_of_ble_eq_true rfl⟩ (Nat.le_of_ble_eq_true rfl) ⟨Nat.le_of_ble_eq_true rfl, Nat.le_of_ble_eq_true rfl⟩ rfl ?_
  first | refine bq_ifb_ne (t := 9) (q := 7) G dX8_fewest_4 (by decide) rfl (fun c4 => ?_) (fun c4 => ?_) | refine bq_if_ne (t := 9) (q := 7) G dX8_fewest_4 (by decide) rfl (fun c4 => ?_) (fun c4 => ?_)
  · obtain ⟨m, hm, rfl⟩ := gs_in60 c4
    have hcl : (nI m).toNatClampNeg = m := nI_clamp (by omega)
    have loop : ∀ k, k ≤ f + 1 → ∀ x y : Int32, gs_few bu T S m k x → (x = -9 ∨ ∃ s : Nat, s < 256 ∧ x = nI s) → y = fe_c x → ∀ J, gs_cK I J → A 0 0 20 [some (.ref (z + 0)), some (.int (nI f)), some (.int bt), some (.int (nI m)), some (.int x), some (.int y), some (.int (nI k)), none] [] 85 (bq_Rf z) J L := by
      refine bq_down (f + 1) ?_
      intro k hk ih x y hx hs hy J hJ
      subst hy
      rcases Nat.lt_or_ge k (f + 1) with hk8 | hk8
      · have hk256 : k < 256 := by omega
        have next : ∀ (u x' y' : Int32) (J' : bq_IR), gs_few bu T S m (k + 1) x' → (x' = -9 ∨ ∃ s : Nat, s < 256 ∧ x' = nI s) → y' = fe_c x' → gs_cK I J' → A 0 0 79 [some (.ref (z + 0)), some (.int (nI f)), some (.int bt), some (.int (nI m)), some (.int x'), some (.int y'), some (.int (nI k)), some (.int u)] [] 85 (bq_Rf z) J' L := by
          intro u x' y' J' h1 h2 h3 h4
          refine bq_iinc (q := 82) (ls' := [_, _, _, _, _, _, _, _]) G dX8_fewest_79 rfl rfl (by first | exact nI_1 _ | exact pk_m1 _ | rfl) (by decide) rfl rfl ?_
          refine bq_goto (q := 20) G dX8_fewest_82 (by decide) ?_
          refine bq_forget G ?_ (ih hk8 x' y' h1 h2 h3 J' h4)
          repeat (first | exact bq_le_0 _ | refine bq_le_n ?_ | refine bq_le_s rfl ?_)
        have skip : ¬ ((∀ b, b < 8 → gs_okb bu S (nI k) b) ∧ (x = -9 ∨ gs_on (nI k) 8 < gs_on x 8)) → A 0 0 49 [some (.ref (z + 0)), some (.int (nI f)), some (.int bt), some (.int (nI m)), some (.int x), some (.int (fe_c x)), some (.int (nI k)), none] [] 85 (bq_Rf z) J L := by
          intro hn
          refine bq_iconst (q := 50) (v := 0) G (by decide) dX8_fewest_49 rfl ?_
          refine bq_istore (q := 52) (ls' := [_, _, _, _, _, _, _, _]) G dX8_fewest_50 rfl (by decide) rfl rfl ?_
          refine bq_iload (q := 54) G rfl dX8_fewest_52 rfl ?_
          refine bq_if_eq_t (t := 79) G dX8_fewest_54 (by decide) rfl ?_
          exact next _ x _ J ⟨x, hx, Or.inr ⟨fun h => hn ⟨h.2.1, h.1⟩, rfl⟩⟩ hs rfl hJ
        refine bq_iload (q := 22) G rfl dX8_fewest_20 rfl ?_
        refine bq_iload_n (q := 23) G rfl dX8_fewest_22 rfl ?_
        refine bq_icmp_gt_f (q := 26) (t := 85) G dX8_fewest_23 rfl (by decide) (nI_nlt (a := f) (b := k) (by omega) (by omega)) ?_
        refine bq_iload (q := 28) G rfl dX8_fewest_26 rfl ?_
        refine bq_iload_n (q := 29) G rfl dX8_fewest_28 rfl ?_
        refine bq_iconst (q := 30) (v := -1) G (by decide) dX8_fewest_29 rfl ?_
        refine bq_ixor (q := 31) G dX8_fewest_30 rfl ?_
        refine bq_iand (q := 32) G dX8_fewest_31 rfl ?_
        first | refine bq_ifb_ne (t := 49) (q := 35) G dX8_fewest_32 (by decide) rfl (fun c32 => ?_) (fun c32 => ?_) | refine bq_if_ne (t := 49) (q := 35) G dX8_fewest_32 (by decide) rfl (fun c32 => ?_) (fun c32 => ?_)
        · exact skip (fun h => c32 ((fe_ok hk256 hF).mpr h.1))
        · have hok := (fe_ok hk256 hF).mp c32
          refine bq_iload (q := 37) G rfl dX8_fewest_35 rfl ?_
          refine bq_calls (q := 40) G dX8_fewest_37 rfl cl_X8_182 (c_J6_bitCount_0f7a4) rfl rfl ⟨Nat.le_of_ble_eq_true rfl, Nat.le_of_ble_eq_true rfl⟩ (Nat.le_of_ble_eq_true rfl) ⟨Nat.le_of_ble_eq_true rfl, Nat.le_of_ble_eq_true rfl⟩ rfl ?_
          rw [jd_bcx k hk256]
          refine bq_iload (q := 42) G rfl dX8_fewest_40 rfl ?_
          refine bq_icmp_ge (t := 49) (q := 45) G dX8_fewest_42 (by decide) rfl (fun c42 => ?_) (fun c42 => ?_)
          · exact skip (fun h => absurd ((fe_lt hk256 hs).mpr h.2) (Int32.not_lt.mpr c42))
          · have hlt := (fe_lt hk256 hs).mp (Int32.not_le.mp c42)
            refine bq_iconst (q := 46) (v := 1) G (by decide) dX8_fewest_45 rfl ?_
            refine bq_goto (q := 50) G dX8_fewest_46 (by decide) ?_
            refine bq_istore (q := 52) (ls' := [_, _, _, _, _, _, _, _]) G dX8_fewest_50 rfl (by decide) rfl rfl ?_
            refine bq_iload (q := 54) G rfl dX8_fewest_52 rfl ?_
            refine bq_if_eq_f (q := 57) (t := 79) G dX8_fewest_54 rfl (by decide) (by decide) ?_
            refine bq_aload_n (q := 58) G rfl dX8_fewest_57 rfl ?_
            refine bq_iload (q := 60) G rfl dX8_fewest_58 rfl ?_
            refine bq_iload_n (q := 61) G rfl dX8_fewest_60 rfl ?_
            refine bq_iload_n (q := 62) G rfl dX8_fewest_61 rfl ?_
            refine bq_callvI (q := 65) G dX8_fewest_62 rfl cl_X8_204 (c_X8_helps (x := k) (m := m) (bu := bu) (hC.keep hJ) hk256 (by omega) hbt) rfl (by first | assumption | exact ⟨Nat.le_of_ble_eq_true rfl, rfl⟩) rfl ⟨Nat.le_of_ble_eq_true rfl, Nat.le_of_ble_eq_true rfl⟩ (Nat.le_of_ble_eq_true rfl) ⟨Nat.le_of_ble_eq_true rfl, Nat.le_of_ble_eq_true rfl⟩ (fun r62 I62 L62 h62 => ?_)
            obtain ⟨rfl, h2, rfl⟩ := h62
            first | refine bq_ifb_eq (t := 79) (q := 68) G dX8_fewest_65 (by decide) rfl (fun c65 => ?_) (fun c65 => ?_) | refine bq_if_eq (t := 79) (q := 68) G dX8_fewest_65 (by decide) rfl (fun c65 => ?_) (fun c65 => ?_)
            · exact next _ x _ _ ⟨x, hx, Or.inr ⟨fun h => c65 h.2.2, rfl⟩⟩ hs rfl (hJ.trans h2)
            · refine bq_iload (q := 70) G rfl dX8_fewest_68 rfl ?_
              refine bq_istore (q := 72) (ls' := [_, _, _, _, _, _, _, _]) G dX8_fewest_70 rfl (by decide) rfl rfl ?_
              refine bq_iload (q := 74) G rfl dX8_fewest_72 rfl ?_
              refine bq_calls (q := 77) G dX8_fewest_74 rfl cl_X8_182 (c_J6_bitCount_0f7a4) rfl rfl ⟨Nat.le_of_ble_eq_true rfl, Nat.le_of_ble_eq_true rfl⟩ (Nat.le_of_ble_eq_true rfl) ⟨Nat.le_of_ble_eq_true rfl, Nat.le_of_ble_eq_true rfl⟩ rfl ?_
              refine bq_istore (q := 79) (ls' := [_, _, _, _, _, _, _, _]) G dX8_fewest_77 rfl (by decide) rfl rfl ?_
              exact next _ _ _ _ ⟨x, hx, Or.inl ⟨⟨hlt, hok, c65⟩, rfl⟩⟩ (Or.inr ⟨k, hk256, rfl⟩) (by unfold fe_c; rw [if_neg (gs_n9 (by omega)), jd_bcx k hk256]) (hJ.trans h2)
      · have hk9 : k = f + 1 := by omega
        subst hk9
        refine bq_iload (q := 22) G rfl dX8_fewest_20 rfl ?_
        refine bq_iload_n (q := 23) G rfl dX8_fewest_22 rfl ?_
        refine bq_icmp_gt_t (t := 85) G dX8_fewest_23 (by decide) (nI_lt (a := f) (b := f + 1) (by omega) (by omega)) ?_
        refine bq_iload (q := 87) G rfl dX8_fewest_85 rfl ?_
        refine hret _ _ _ _ _ dX8_fewest_87 ⟨⟨fun _ => ?_, fun h => absurd c4 h⟩, hJ, rfl⟩
        rw [hcl]
        have := fe_up hf hF hx (255 - f) (by omega)
        rwa [show f + 1 + (255 - f) = 256 by omega] at this
    refine bq_bipush (q := 11) (v := -9) G (by decide) dX8_fewest_9 rfl ?_
    refine bq_istore (q := 13) (ls' := [_, _, _, _, _, _, _, _]) G dX8_fewest_11 rfl (by decide) rfl rfl ?_
    refine bq_bipush (q := 15) (v := 9) G (by decide) dX8_fewest_13 rfl ?_
    refine bq_istore (q := 17) (ls' := [_, _, _, _, _, _, _, _]) G dX8_fewest_15 rfl (by decide) rfl rfl ?_
    refine bq_iconst (q := 18) (v := 0) G (by decide) dX8_fewest_17 rfl ?_
    refine bq_istore (q := 20) (ls' := [_, _, _, _, _, _, _, _]) G dX8_fewest_18 rfl (by decide) rfl rfl ?_
    exact loop 0 (by omega) (-9) 9 rfl (Or.inl rfl) rfl I (gs_cK.refl I)
  · refine bq_iconst (q := 8) (v := -1) G (by decide) dX8_fewest_7 rfl ?_
    exact hret _ _ _ _ _ dX8_fewest_8 ⟨⟨fun h => absurd h c4, fun _ => rfl⟩, gs_cK.refl I, rfl⟩
theorem fe_set {S : Nat → Int32} {t w : Int32} {o : Nat} (h : gs_F S 51 t) (h2 : gs_F S o w) : ∃ f : Nat, f < 256 ∧ t &&& (w ^^^ -1) = nI f ∧ ∀ b, b < 8 → (f / 2 ^ b % 2 = 1 ↔ (S (51 + b) = 1 ∧ S (o + b) = 0)) := by
  obtain ⟨x, hx, rfl, hS⟩ := h
  obtain ⟨y, hy, rfl, hS2⟩ := h2
  refine ⟨x &&& (y ^^^ 255), tb_anlt hx, tb_an hx, fun b hb => ?_⟩
  rw [hS b hb, hS2 b hb, tb_anb hb]
  have h1 : x / 2 ^ b % 2 < 2 := Nat.mod_lt _ (by decide)
  have h2 : y / 2 ^ b % 2 < 2 := Nat.mod_lt _ (by decide)
  rcases (show x / 2 ^ b % 2 = 0 ∨ x / 2 ^ b % 2 = 1 by omega) with e | e <;> rcases (show y / 2 ^ b % 2 = 0 ∨ y / 2 ^ b % 2 = 1 by omega) with e2 | e2 <;> rw [e, e2] <;> decide
set_option maxHeartbeats 1000000 in
set_option maxRecDepth 100000 in
theorem c_X8_teach {z : Nat} {I : bq_IR} {L : bq_LR} {n : Int32} {T S : Nat → Int32} (hC : gs_CS I T S) : bq_FI MX8_teach z [.ref (z + 0), .int n] 85 (bq_Rf z) I L (fun r J L' => (((1 ≤ n ∧ n ≤ 60) → gs_few 0 T S n.toNatClampNeg 256 r) ∧ (¬ (1 ≤ n ∧ n ≤ 60) → r = -1)) ∧ gs_cK I J ∧ L' = L) := by
  refine bq_FIof [some (.ref (z + 0)), some (.int n)] rfl (Nat.le_of_ble_eq_true rfl) (by decide) rfl (fun _ _ _ _ => rfl) ?_
  intro A G hret
  have G : bq_Cx cX8_teach RX8 2 z (bq_rm MX8_teach 0 0) "teach" A := G
  have hM := hC.2.1.1
  obtain ⟨f, hf, ef, hF⟩ := fe_set hM.2.2.2.2.2 hM.2.2.1
  refine bq_aload_n (q := 1) G rfl dX8_teach_0 rfl ?_
  refine bq_aload_n (q := 2) G rfl dX8_teach_1 rfl ?_
  refine bq_getr (q := 5) G dX8_teach_2 rfl fl_X8_36 (by first | assumption | exact ⟨Nat.le_of_ble_eq_true rfl, rfl⟩) (fun _ _ _ => rfl) (rf_0_4 z) ?_
  refine bq_geti (q := 8) G dX8_teach_5 rfl fl_X8_132 (by first | assumption | exact ⟨Nat.le_of_ble_eq_true rfl, rfl⟩) rfl ?_
  refine bq_aload_n (q := 9) G rfl dX8_teach_8 rfl ?_
  refine bq_getr (q := 12) G dX8_teach_9 rfl fl_X8_36 (by first | assumption | exact ⟨Nat.le_of_ble_eq_true rfl, rfl⟩) (fun _ _ _ => rfl) (rf_0_4 z) ?_
  refine bq_geti (q := 15) G dX8_teach_12 rfl fl_X8_119 (by first | assumption | exact ⟨Nat.le_of_ble_eq_true rfl, rfl⟩) rfl ?_
  refine bq_iconst (q := 16) (v := -1) G (by decide) dX8_teach_15 rfl ?_
  refine bq_ixor (q := 17) G dX8_teach_16 rfl ?_
  refine bq_iand (q := 18) G dX8_teach_17 rfl ?_
  rw [ef]
  refine bq_iconst (q := 19) (v := 1) G (by decide) dX8_teach_18 rfl ?_
  refine bq_iload_n (q := 20) G rfl dX8_teach_19 rfl ?_
  refine bq_callvI (q := 23) G dX8_teach_20 rfl cl_X8_193 (c_X8_fewest (f := f) (bu := 0) hC hf (by decide) hF) rfl (by first | assumption | exact ⟨Nat.le_of_ble_eq_true rfl, rfl⟩) rfl ⟨Nat.le_of_ble_eq_true rfl, Nat.le_of_ble_eq_true rfl⟩ (Nat.le_of_ble_eq_true rfl) ⟨Nat.le_of_ble_eq_true rfl, Nat.le_of_ble_eq_true rfl⟩ (fun r20 I20 L20 h20 => ?_)
  exact hret _ _ _ _ _ dX8_teach_23 h20
set_option maxHeartbeats 1000000 in
set_option maxRecDepth 100000 in
theorem c_X8_burn {z : Nat} {I : bq_IR} {L : bq_LR} {n : Int32} {T S : Nat → Int32} (hC : gs_CS I T S) : bq_FI MX8_burn z [.ref (z + 0), .int n] 85 (bq_Rf z) I L (fun r J L' => (((1 ≤ n ∧ n ≤ 60) → gs_few 1 T S n.toNatClampNeg 256 r) ∧ (¬ (1 ≤ n ∧ n ≤ 60) → r = -1)) ∧ gs_cK I J ∧ L' = L) := by
  refine bq_FIof [some (.ref (z + 0)), some (.int n)] rfl (Nat.le_of_ble_eq_true rfl) (by decide) rfl (fun _ _ _ _ => rfl) ?_
  intro A G hret
  have G : bq_Cx cX8_burn RX8 2 z (bq_rm MX8_burn 0 0) "burn" A := G
  have hM := hC.2.1.1
  obtain ⟨f, hf, ef, hF⟩ := fe_set hM.2.2.2.2.2 hM.2.2.2.2.1
  refine bq_aload_n (q := 1) G rfl dX8_burn_0 rfl ?_
  refine bq_aload_n (q := 2) G rfl dX8_burn_1 rfl ?_
  refine bq_getr (q := 5) G dX8_burn_2 rfl fl_X8_36 (by first | assumption | exact ⟨Nat.le_of_ble_eq_true rfl, rfl⟩) (fun _ _ _ => rfl) (rf_0_4 z) ?_
  refine bq_geti (q := 8) G dX8_burn_5 rfl fl_X8_132 (by first | assumption | exact ⟨Nat.le_of_ble_eq_true rfl, rfl⟩) rfl ?_
  refine bq_aload_n (q := 9) G rfl dX8_burn_8 rfl ?_
  refine bq_getr (q := 12) G dX8_burn_9 rfl fl_X8_36 (by first | assumption | exact ⟨Nat.le_of_ble_eq_true rfl, rfl⟩) (fun _ _ _ => rfl) (rf_0_4 z) ?_
  refine bq_geti (q := 15) G dX8_burn_12 rfl fl_X8_129 (by first | assumption | exact ⟨Nat.le_of_ble_eq_true rfl, rfl⟩) rfl ?_
  refine bq_iconst (q := 16) (v := -1) G (by decide) dX8_burn_15 rfl ?_
  refine bq_ixor (q := 17) G dX8_burn_16 rfl ?_
  refine bq_iand (q := 18) G dX8_burn_17 rfl ?_
  rw [ef]
  refine bq_iconst (q := 19) (v := 0) G (by decide) dX8_burn_18 rfl ?_
  refine bq_iload_n (q := 20) G rfl dX8_burn_19 rfl ?_
  refine bq_callvI (q := 23) G dX8_burn_20 rfl cl_X8_193 (c_X8_fewest (f := f) (bu := 1) hC hf (by decide) hF) rfl (by first | assumption | exact ⟨Nat.le_of_ble_eq_true rfl, rfl⟩) rfl ⟨Nat.le_of_ble_eq_true rfl, Nat.le_of_ble_eq_true rfl⟩ (Nat.le_of_ble_eq_true rfl) ⟨Nat.le_of_ble_eq_true rfl, Nat.le_of_ble_eq_true rfl⟩ (fun r20 I20 L20 h20 => ?_)
  exact hret _ _ _ _ _ dX8_burn_23 h20
