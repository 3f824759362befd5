set_option maxHeartbeats 1000000 in
set_option maxRecDepth 100000 in
theorem c_X5_isThere {z n : Nat} {R : bq_RR} {I : bq_IR} {L : bq_LR} {a : Nat} {b : Int32} (hM0 : bq_OB n a 5) : bq_FC MX5_isThere z [.ref (z + a), .int b] n R I L 0 0 (some (.int (if 0 ≤ b ∧ b < 8 ∧ I a 9 >>> (b &&& 31) &&& 1 = 1 then 1 else 0))) n R (I) (L) := by
  refine bq_ofI [some (.ref (z + a)), some (.int b)] rfl (Nat.le_of_ble_eq_true rfl) (by decide) rfl (by first | rfl | exact bq_nb _ | (split <;> rfl)) ?_
  intro A G hret
  have G : bq_Cx cX5_isThere RX5 2 z (bq_rm MX5_isThere 0 0) "isThere" A := G
  refine bq_iload_n (q := 1) G rfl dX5_isThere_0 rfl ?_
  refine bq_if_lt (t := 26) (q := 4) G dX5_isThere_1 (by decide) rfl (fun c1 => ?_) (fun c1 => ?_)
  · refine bq_iconst (q := 27) (v := 0) G (by decide) dX5_isThere_26 rfl ?_
    exact bq_ri (hret _ _ dX5_isThere_27) (by first | (rw [if_pos ⟨by simpa [Int32.not_lt] using c1, by simpa [Int32.not_le] using c7, by simpa using c19⟩]; done) | (rw [if_neg (fun h => by first | exact c19 h.2.2 | exact Int32.not_lt.mpr h.1 c1 | exact Int32.not_lt.mpr c7 h.2.1)]; done)) rfl rfl
  · refine bq_iload_n (q := 5) G rfl dX5_isThere_4 rfl ?_
    refine bq_bipush (q := 7) (v := 8) G (by decide) dX5_isThere_5 rfl ?_
    refine bq_icmp_ge (t := 26) (q := 10) G dX5_isThere_7 (by decide) rfl (fun c7 => ?_) (fun c7 => ?_)
    · refine bq_iconst (q := 27) (v := 0) G (by decide) dX5_isThere_26 rfl ?_
      exact bq_ri (hret _ _ dX5_isThere_27) (by first | (rw [if_pos ⟨by simpa [Int32.not_lt] using c1, by simpa [Int32.not_le] using c7, by simpa using c19⟩]; done) | (rw [if_neg (fun h => by first | exact c19 h.2.2 | exact Int32.not_lt.mpr h.1 c1 | exact Int32.not_lt.mpr c7 h.2.1)]; done)) rfl rfl
    · refine bq_aload_n (q := 11) G rfl dX5_isThere_10 rfl ?_
      refine bq_geti (q := 14) G dX5_isThere_11 rfl fl_X5_40 (by first | assumption | exact ⟨Nat.le_of_ble_eq_true rfl, rfl⟩) rfl ?_
      refine bq_iload_n (q := 15) G rfl dX5_isThere_14 rfl ?_
      refine bq_callsN (q := 18) G dX5_isThere_15 rfl (by first | exact Or.inl ⟨rfl, rfl⟩ | exact Or.inr ⟨rfl, rfl⟩) (c_X8_bitOf) rfl rfl ⟨Nat.le_of_ble_eq_true rfl, Nat.le_of_ble_eq_true rfl⟩ (Nat.le_of_ble_eq_true rfl) ⟨Nat.le_of_ble_eq_true rfl, Nat.le_of_ble_eq_true rfl⟩ rfl ?_
      refine bq_iconst (q := 19) (v := 1) G (by decide) dX5_isThere_18 rfl ?_
      refine bq_icmp_ne (t := 26) (q := 22) G dX5_isThere_19 (by decide) rfl (fun c19 => ?_) (fun c19 => ?_)
      · refine bq_iconst (q := 27) (v := 0) G (by decide) dX5_isThere_26 rfl ?_
        exact bq_ri (hret _ _ dX5_isThere_27) (by first | (rw [if_pos ⟨by simpa [Int32.not_lt] using c1, by simpa [Int32.not_le] using c7, by simpa using c19⟩]; done) | (rw [if_neg (fun h => by first | exact c19 h.2.2 | exact Int32.not_lt.mpr h.1 c1 | exact Int32.not_lt.mpr c7 h.2.1)]; done)) rfl rfl
      · refine bq_iconst (q := 23) (v := 1) G (by decide) dX5_isThere_22 rfl ?_
        refine bq_goto (q := 27) G dX5_isThere_23 (by decide) ?_
        exact bq_ri (hret _ _ dX5_isThere_27) (by first | (rw [if_pos ⟨by simpa [Int32.not_lt] using c1, by simpa [Int32.not_le] using c7, by simpa using c19⟩]; done) | (rw [if_neg (fun h => by first | exact c19 h.2.2 | exact Int32.not_lt.mpr h.1 c1 | exact Int32.not_lt.mpr c7 h.2.1)]; done)) rfl rfl
theorem bq_bits {I : bq_IR} {a k : Nat} {S : Nat → Int32} (hk : k < 8) (hF : gs_F S 51 (I a 9)) : (0 ≤ nI k ∧ nI k < 8 ∧ I a 9 >>> (nI k &&& 31) &&& 1 = 1) ↔ S (51 + k) = 1 := by
  rw [hF.get hk]
  exact ⟨fun h => h.2.2, fun h => ⟨nI_pos' (by omega), nI_lt (b := 8) hk (by decide), h⟩⟩
theorem c_isThere {z n : Nat} {R : bq_RR} {I : bq_IR} {L : bq_LR} {a k : Nat} {S : Nat → Int32} (hM0 : bq_OB n a 5) (hk : k < 8) (hF : gs_F S 51 (I a 9)) : bq_FC MX5_isThere z [.ref (z + a), .int (nI k)] n R I L 0 0 (some (.int (if S (51 + k) = 1 then 1 else 0))) n R I L := by
  have h := c_X5_isThere (z := z) (R := R) (I := I) (L := L) (b := nI k) hM0
  simp only [bq_bits hk hF] at h
  exact h
set_option maxHeartbeats 1000000 in
set_option maxRecDepth 100000 in
theorem c_X5_loadOf {z n : Nat} {R : bq_RR} {I : bq_IR} {L : bq_LR} {a : Nat} {k : Nat} {S : Nat → Int32} (hM : bq_Mo z n R a) (hC : bq_MC I a S) (hk : k < 8) : bq_FC MX5_loadOf z [.ref (z + a), .int (nI k)] n R I L 0 0 (some (.int (gs_ld S k))) n R (I) (L) := by
  refine bq_ofI [some (.ref (z + a)), some (.int (nI k))] rfl (Nat.le_of_ble_eq_true rfl) (by decide) rfl rfl ?_
  intro A G hret
  have G : bq_Cx cX5_loadOf RX5 2 z (bq_rm MX5_loadOf 0 0) "loadOf" A := G
  obtain ⟨hM0, hM1, hM2, hM3, hR3, hR4, hR5⟩ := id hM
  have e3 := (hC.2.1 k hk).1
  have e4 := hC.2.2.2.1.get hk
  refine bq_iload_n (q := 1) G rfl dX5_loadOf_0 rfl ?_
  refine bq_if_lt_f (q := 4) (t := 10) G dX5_loadOf_1 rfl (by decide) (nI_pos (by omega)) ?_
  refine bq_iload_n (q := 5) G rfl dX5_loadOf_4 rfl ?_
  refine bq_bipush (q := 7) (v := 8) G (by decide) dX5_loadOf_5 rfl ?_
  refine bq_icmp_lt_t (t := 12) G dX5_loadOf_7 (by decide) (nI_lt (b := 8) hk (by decide)) ?_
  refine bq_aload_n (q := 13) G rfl dX5_loadOf_12 rfl ?_
  refine bq_geti (q := 16) G dX5_loadOf_13 rfl fl_X5_34 (by first | assumption | exact ⟨Nat.le_of_ble_eq_true rfl, rfl⟩) rfl ?_
  refine bq_iload_n (q := 17) G rfl dX5_loadOf_16 rfl ?_
  refine bq_callsN (q := 20) G dX5_loadOf_17 rfl (by first | exact Or.inl ⟨rfl, rfl⟩ | exact Or.inr ⟨rfl, rfl⟩) (c_X8_bitOf) rfl rfl ⟨Nat.le_of_ble_eq_true rfl, Nat.le_of_ble_eq_true rfl⟩ (Nat.le_of_ble_eq_true rfl) ⟨Nat.le_of_ble_eq_true rfl, Nat.le_of_ble_eq_true rfl⟩ rfl ?_
  refine bq_iconst (q := 21) (v := 1) G (by decide) dX5_loadOf_20 rfl ?_
  refine bq_icmp_ne (t := 35) (q := 24) G dX5_loadOf_21 (by decide) rfl (fun c21 => ?_) (fun c21 => ?_)
  · refine bq_aload_n (q := 36) G rfl dX5_loadOf_35 rfl ?_
    refine bq_getr (q := 39) G dX5_loadOf_36 rfl fl_X5_9 (by first | assumption | exact ⟨Nat.le_of_ble_eq_true rfl, rfl⟩) (fun _ _ _ => rfl) (by first | assumption | rfl) ?_
    refine bq_iload_n (q := 40) G rfl dX5_loadOf_39 rfl ?_
    refine bq_iald (q := 41) G dX5_loadOf_40 rfl (by first | assumption | exact ⟨Nat.le_of_ble_eq_true rfl, rfl⟩) (by first | with_reducible assumption | with_reducible exact rfl | exact bq_ixa rfl (by with_reducible assumption) | exact rfl | exact bq_ixa rfl rfl | exact bq_ixa (by with_reducible assumption) rfl | exact bq_ixa rfl (bq_ixa (by first | rfl | with_reducible assumption) (by first | rfl | with_reducible assumption))) (by first | with_reducible assumption | omega | decide) (by decide) ?_
    exact bq_ri (hret _ _ dX5_loadOf_41) (by unfold gs_ld; rw [e4] at c21; rw [if_neg c21, e3]) rfl rfl
  · refine bq_aload_n (q := 25) G rfl dX5_loadOf_24 rfl ?_
    refine bq_getr (q := 28) G dX5_loadOf_25 rfl fl_X5_9 (by first | assumption | exact ⟨Nat.le_of_ble_eq_true rfl, rfl⟩) (fun _ _ _ => rfl) (by first | assumption | rfl) ?_
    refine bq_iload_n (q := 29) G rfl dX5_loadOf_28 rfl ?_
    refine bq_iald (q := 30) G dX5_loadOf_29 rfl (by first | assumption | exact ⟨Nat.le_of_ble_eq_true rfl, rfl⟩) (by first | with_reducible assumption | with_reducible exact rfl | exact bq_ixa rfl (by with_reducible assumption) | exact rfl | exact bq_ixa rfl rfl | exact bq_ixa (by with_reducible assumption) rfl | exact bq_ixa rfl (bq_ixa (by first | rfl | with_reducible assumption) (by first | rfl | with_reducible assumption))) (by first | with_reducible assumption | omega | decide) (by decide) ?_
    refine bq_iconst (q := 31) (v := 2) G (by decide) dX5_loadOf_30 rfl ?_
    refine bq_idiv (q := 32) G (by decide) dX5_loadOf_31 rfl ?_
    refine bq_goto (q := 41) G dX5_loadOf_32 (by decide) ?_
    exact bq_ri (hret _ _ dX5_loadOf_41) (by unfold gs_ld; rw [e4] at c21; rw [if_pos c21, e3]) rfl rfl
set_option maxHeartbeats 1000000 in
set_option maxRecDepth 100000 in
theorem c_X5_comes {z n : Nat} {R : bq_RR} {I : bq_IR} {L : bq_LR} {a : Nat} {k : Nat} {S : Nat → Int32} (hM : bq_Mo z n R a) (hC : bq_MC I a S) (hk : k < 8) (hw : 0 ≤ S 1 ∧ S 1 ≤ 99999) (hs : 0 ≤ S (3 + k) ∧ S (3 + k) ≤ 64) : bq_FV MX5_comes z [.ref (z + a), .int (nI k)] n R I L (fun J L' => (bq_MC J a (gs_2 k S) ∧ J a 0 = I a 0 ∧ J a 2 = I a 2 ∧ J a 10 = I a 10 ||| (1 <<< (nI k &&& 31)) ∧ J a 11 = I a 11) ∧ (∀ x, (x < a ∨ a + 3 < x) → J x = I x) ∧ L' = L) := by
  refine bq_FVof [some (.ref (z + a)), some (.int (nI k))] rfl (Nat.le_of_ble_eq_true rfl) (by decide) rfl ?_
  intro A G hret
  have G : bq_Cx cX5_comes RX5 2 z (bq_rm MX5_comes 0 0) "comes" A := G
  obtain ⟨hM0, hM1, hM2, hM3, hR3, hR4, hR5⟩ := id hM
  have e4 := hC.2.2.1.get hk
  have hld := gs_ld_in hs
  
  have tail : ∀ (v : Int32), v = gs_wa k S → A 0 0 63 [some (.ref (z + a)), some (.int (nI k))] [] n R (bq_sr I a (upd (I a) 1 v)) L := by
    intro v hv
    refine bq_aload_n (q := 64) G rfl dX5_comes_63 rfl ?_
    refine bq_getr (q := 67) G dX5_comes_64 rfl fl_X5_18 (by first | assumption | exact ⟨Nat.le_of_ble_eq_true rfl, rfl⟩) (fun _ _ _ => rfl) (by first | assumption | rfl) ?_
    refine bq_iload_n (q := 68) G rfl dX5_comes_67 rfl ?_
    refine bq_aload_n (q := 69) G rfl dX5_comes_68 rfl ?_
    refine bq_getr (q := 72) G dX5_comes_69 rfl fl_X5_15 (by first | assumption | exact ⟨Nat.le_of_ble_eq_true rfl, rfl⟩) (fun _ _ _ => rfl) (by first | assumption | rfl) ?_
    refine bq_iload_n (q := 73) G rfl dX5_comes_72 rfl ?_
    refine bq_iald (q := 74) G dX5_comes_73 rfl (by first | assumption | exact ⟨Nat.le_of_ble_eq_true rfl, rfl⟩) (by first | with_reducible assumption | with_reducible exact rfl | exact bq_ixa rfl (by with_reducible assumption) | exact rfl | exact bq_ixa rfl rfl | exact bq_ixa (by with_reducible assumption) rfl | exact bq_ixa rfl (bq_ixa (by first | rfl | with_reducible assumption) (by first | rfl | with_reducible assumption))) (by first | with_reducible assumption | omega | decide) (by decide) ?_
    refine bq_iast (q := 75) G dX5_comes_74 rfl (by first | assumption | exact ⟨Nat.le_of_ble_eq_true rfl, rfl⟩) (by first | with_reducible assumption | with_reducible exact rfl | exact bq_ixa rfl (by with_reducible assumption) | exact rfl | exact bq_ixa rfl rfl | exact bq_ixa (by with_reducible assumption) rfl | exact bq_ixa rfl (bq_ixa (by first | rfl | with_reducible assumption) (by first | rfl | with_reducible assumption))) (by first | with_reducible assumption | omega | decide) (by decide) ?_
    refine bq_aload_n (q := 76) G rfl dX5_comes_75 rfl ?_
    refine bq_dup (q := 77) G rfl dX5_comes_76 rfl ?_
    refine bq_geti (q := 80) G dX5_comes_77 rfl fl_X5_37 (by first | assumption | exact ⟨Nat.le_of_ble_eq_true rfl, rfl⟩) rfl ?_
    refine bq_iconst (q := 81) (v := 1) G (by decide) dX5_comes_80 rfl ?_
    refine bq_iload_n (q := 82) G rfl dX5_comes_81 rfl ?_
    refine bq_ishl (q := 83) G dX5_comes_82 rfl ?_
    refine bq_ior (q := 84) G dX5_comes_83 rfl ?_
    refine bq_puti (q := 87) G dX5_comes_84 rfl fl_X5_37 (by first | assumption | exact ⟨Nat.le_of_ble_eq_true rfl, rfl⟩) rfl rfl ?_
    refine bq_aload_n (q := 88) G rfl dX5_comes_87 rfl ?_
    refine bq_dup (q := 89) G rfl dX5_comes_88 rfl ?_
    refine bq_geti (q := 92) G dX5_comes_89 rfl fl_X5_47 (by first | assumption | exact ⟨Nat.le_of_ble_eq_true rfl, rfl⟩) rfl ?_
    refine bq_iconst (q := 93) (v := 1) G (by decide) dX5_comes_92 rfl ?_
    refine bq_iload_n (q := 94) G rfl dX5_comes_93 rfl ?_
    refine bq_ishl (q := 95) G dX5_comes_94 rfl ?_
    refine bq_ior (q := 96) G dX5_comes_95 rfl ?_
    refine bq_puti (q := 99) G dX5_comes_96 rfl fl_X5_47 (by first | assumption | exact ⟨Nat.le_of_ble_eq_true rfl, rfl⟩) rfl rfl ?_
    refine hret _ _ _ _ dX5_comes_99 ⟨⟨?_, ?_, ?_, ?_, ?_⟩, ?_, rfl⟩
    · have m1 := hC.water v
      have ep := (m1.2.1 k hk).2.1
      have m2 := m1.due hk (bq_sr I a (upd (I a) 1 v) (a + 2) k)
      have m3 := m2.wet (m2.2.2.2.2.1.set1 hk) (fun j hj => pk_un (by omega))
      have e2 : upd (upd (upd S 1 v) (19 + k) (bq_sr I a (upd (I a) 1 v) (a + 2) k)) (43 + k) 1 = gs_2 k S := by rw [ep, pk_un (by omega), hv]; rfl
      rw [← e2]
      exact m3.oth 10 _ (by omega)
    · simp [bq_sr, upd]
    · simp [bq_sr, upd]
    · simp [bq_sr, upd]
    · simp [bq_sr, upd]
    · intro x hx
      simp only [bq_sr]
      (repeat' split) <;> first | rfl | omega
  refine bq_iload_n (q := 1) G rfl dX5_comes_0 rfl ?_
  refine bq_if_lt_f (q := 4) (t := 10) G dX5_comes_1 rfl (by decide) (nI_pos (by omega)) ?_
  refine bq_iload_n (q := 5) G rfl dX5_comes_4 rfl ?_
  refine bq_bipush (q := 7) (v := 8) G (by decide) dX5_comes_5 rfl ?_
  refine bq_icmp_lt_t (t := 11) G dX5_comes_7 (by decide) (nI_lt (b := 8) hk (by decide)) ?_
  refine bq_aload_n (q := 12) G rfl dX5_comes_11 rfl ?_
  refine bq_geti (q := 15) G dX5_comes_12 rfl fl_X5_31 (by first | assumption | exact ⟨Nat.le_of_ble_eq_true rfl, rfl⟩) rfl ?_
  refine bq_iload_n (q := 16) G rfl dX5_comes_15 rfl ?_
  refine bq_callsN (q := 19) G dX5_comes_16 rfl (by first | exact Or.inl ⟨rfl, rfl⟩ | exact Or.inr ⟨rfl, rfl⟩) (c_X8_bitOf) rfl rfl ⟨Nat.le_of_ble_eq_true rfl, Nat.le_of_ble_eq_true rfl⟩ (Nat.le_of_ble_eq_true rfl) ⟨Nat.le_of_ble_eq_true rfl, Nat.le_of_ble_eq_true rfl⟩ rfl ?_
  refine bq_iconst (q := 20) (v := 1) G (by decide) dX5_comes_19 rfl ?_
  refine bq_icmp_ne (t := 44) (q := 23) G dX5_comes_20 (by decide) rfl (fun c20 => ?_) (fun c20 => ?_)
  · refine bq_aload_n (q := 45) G rfl dX5_comes_44 rfl ?_
    refine bq_ldc (q := 47) G wk_X5_73 dX5_comes_45 rfl ?_
    refine bq_aload_n (q := 48) G rfl dX5_comes_47 rfl ?_
    refine bq_geti (q := 51) G dX5_comes_48 rfl fl_X5_25 (by first | assumption | exact ⟨Nat.le_of_ble_eq_true rfl, rfl⟩) rfl ?_
    refine bq_aload_n (q := 52) G rfl dX5_comes_51 rfl ?_
    refine bq_iload_n (q := 53) G rfl dX5_comes_52 rfl ?_
    refine bq_callv (q := 56) G dX5_comes_53 rfl cl_X5_66 (c_X5_loadOf hM hC hk) rfl (by first | assumption | exact ⟨Nat.le_of_ble_eq_true rfl, rfl⟩) rfl ⟨Nat.le_of_ble_eq_true rfl, Nat.le_of_ble_eq_true rfl⟩ (Nat.le_of_ble_eq_true rfl) ⟨Nat.le_of_ble_eq_true rfl, Nat.le_of_ble_eq_true rfl⟩ rfl ?_
    refine bq_iadd (q := 57) G dX5_comes_56 rfl ?_
    refine bq_calls (q := 60) G dX5_comes_57 rfl cl_X5_58 (c_J9_min_7cf53) rfl rfl ⟨Nat.le_of_ble_eq_true rfl, Nat.le_of_ble_eq_true rfl⟩ (Nat.le_of_ble_eq_true rfl) ⟨Nat.le_of_ble_eq_true rfl, Nat.le_of_ble_eq_true rfl⟩ rfl ?_
    refine bq_puti (q := 63) G dX5_comes_60 rfl fl_X5_25 (by first | assumption | exact ⟨Nat.le_of_ble_eq_true rfl, rfl⟩) rfl rfl ?_
    refine tail _ ?_
    rw [e4] at c20
    unfold gs_wa
    rw [if_neg c20, hC.1, gs_in hw hld]
  · refine bq_aload_n (q := 24) G rfl dX5_comes_23 rfl ?_
    refine bq_iconst (q := 25) (v := 0) G (by decide) dX5_comes_24 rfl ?_
    refine bq_aload_n (q := 26) G rfl dX5_comes_25 rfl ?_
    refine bq_geti (q := 29) G dX5_comes_26 rfl fl_X5_25 (by first | assumption | exact ⟨Nat.le_of_ble_eq_true rfl, rfl⟩) rfl ?_
    refine bq_aload_n (q := 30) G rfl dX5_comes_29 rfl ?_
    refine bq_iload_n (q := 31) G rfl dX5_comes_30 rfl ?_
    refine bq_callv (q := 34) G dX5_comes_31 rfl cl_X5_66 (c_X5_loadOf hM hC hk) rfl (by first | assumption | exact ⟨Nat.le_of_ble_eq_true rfl, rfl⟩) rfl ⟨Nat.le_of_ble_eq_true rfl, Nat.le_of_ble_eq_true rfl⟩ (Nat.le_of_ble_eq_true rfl) ⟨Nat.le_of_ble_eq_true rfl, Nat.le_of_ble_eq_true rfl⟩ rfl ?_
    refine bq_isub (q := 35) G dX5_comes_34 rfl ?_
    refine bq_calls (q := 38) G dX5_comes_35 rfl cl_X5_70 (c_J9_max_7cf53) rfl rfl ⟨Nat.le_of_ble_eq_true rfl, Nat.le_of_ble_eq_true rfl⟩ (Nat.le_of_ble_eq_true rfl) ⟨Nat.le_of_ble_eq_true rfl, Nat.le_of_ble_eq_true rfl⟩ rfl ?_
    refine bq_puti (q := 41) G dX5_comes_38 rfl fl_X5_25 (by first | assumption | exact ⟨Nat.le_of_ble_eq_true rfl, rfl⟩) rfl rfl ?_
    refine bq_goto (q := 63) G dX5_comes_41 (by decide) ?_
    refine tail _ ?_
    rw [e4] at c20
    unfold gs_wa
    rw [if_pos c20, hC.1, gs_out hw hld]
theorem bq_m1 (x : Int32) : x + Int32.ofInt (-1) = x - 1 := by rw [show Int32.ofInt (-1) = -1 from by decide, Int32.sub_eq_add_neg]
theorem gs_1_e {k : Nat} {S : Nat → Int32} (j : Nat) : gs_1 k S j = if j = 19 + k then S (19 + k) - S (51 + k) else S j := rfl
theorem gs_1_51 {k : Nat} {S : Nat → Int32} : gs_1 k S (51 + k) = S (51 + k) := by rw [gs_1_e, if_neg (by omega)]
theorem gs_1_19 {k : Nat} {S : Nat → Int32} : gs_1 k S (19 + k) = S (19 + k) - S (51 + k) := by rw [gs_1_e, if_pos rfl]
theorem gs_Ok.one {S : Nat → Int32} (h : gs_Ok S) (k : Nat) (hk : k < 8) : gs_Ok (gs_1 k S) := by
  unfold gs_1
  refine ⟨by rw [pk_un (by omega)]; exact h.1, fun b hb => ?_⟩
  rw [pk_un (by omega), pk_un (by omega), pk_un (by omega), pk_un (by omega), pk_un (by omega), pk_un (by omega)]
  exact h.2 b hb
theorem gs_Ok.two {S : Nat → Int32} (h : gs_Ok S) (k : Nat) (hk : k < 8) : gs_Ok (gs_2 k S) := by
  unfold gs_2
  refine ⟨by rw [pk_un (by omega), pk_un (by omega), pk_us]; exact gs_cl_in _, fun b hb => ?_⟩
  rw [pk_un (j := 3 + b) (by omega), pk_un (j := 3 + b) (by omega), pk_un (j := 3 + b) (by omega), pk_un (j := 51 + b) (by omega), pk_un (j := 51 + b) (by omega), pk_un (j := 51 + b) (by omega), pk_un (j := 11 + b) (by omega), pk_un (j := 11 + b) (by omega), pk_un (j := 11 + b) (by omega), pk_un (j := 27 + b) (by omega), pk_un (j := 27 + b) (by omega), pk_un (j := 27 + b) (by omega), pk_un (j := 35 + b) (by omega), pk_un (j := 35 + b) (by omega), pk_un (j := 35 + b) (by omega)]
  obtain ⟨g1, g2, g3, g4, g5, g6⟩ := h.2 b hb
  refine ⟨g1, g2, g3, g4, ?_, g6⟩
  by_cases e : b = k
  · subst e; rw [pk_us]; exact Or.inr rfl
  · rw [pk_un (by omega), pk_un (by omega), pk_un (by omega)]; exact g5
theorem gs_Ok.st {x : gs_X} (h : gs_Ok x.1) (k : Nat) (hk : k < 8) : gs_Ok (gs_st k x).1 := by
  unfold gs_st
  split
  · exact (h.one k hk).two k hk
  · exact h.one k hk
theorem gs_Ok.lp {x : gs_X} (h : gs_Ok x.1) : ∀ k, k ≤ 8 → gs_Ok (gs_lp k x).1
  | 0, _ => h
  | k + 1, hk => gs_Ok.st (gs_Ok.lp h k (by omega)) k (by omega)
def bq_PI (I : bq_IR) (a : Nat) (x : gs_X) (J : bq_IR) : Prop := (bq_MC J a x.1 ∧ J a 0 = I a 0 + 1 ∧ J a 2 = I a 2 ∧ J a 10 = x.2.2 ∧ J a 11 = I a 11) ∧ ∀ y, (y < a ∨ a + 3 < y) → J y = I y
set_option maxHeartbeats 1000000 in
set_option maxRecDepth 100000 in
theorem c_X5_pass {z n : Nat} {R : bq_RR} {I : bq_IR} {L : bq_LR} {a : Nat} {w d : Int32} {S : Nat → Int32} (hM : bq_Mo z n R a) (hC : bq_MC I a S) (hS : gs_Ok S) : bq_FV MX5_pass z [.ref (z + a), .int w, .int d] n R I L (fun J L' => (bq_MC J a (gs_min w d S) ∧ J a 0 = I a 0 + 1 ∧ J a 2 = I a 2 ∧ J a 10 = (gs_T w S).2.2 ∧ J a 11 = gs_ran (gs_T w S).1 d) ∧ (∀ x, (x < a ∨ a + 3 < x) → J x = I x) ∧ L' = L) := by
  refine bq_FVof [some (.ref (z + a)), some (.int w), some (.int d), none, none] rfl (Nat.le_of_ble_eq_true rfl) (by decide) rfl ?_
  intro A G hret
  have G : bq_Cx cX5_pass RX5 5 z (bq_rm MX5_pass 0 0) "pass" A := G
  obtain ⟨hM0, hM1, hM2, hM3, hR3, hR4, hR5⟩ := id hM
  have loop : ∀ k, k ≤ 8 → ∀ J : bq_IR, bq_PI I a (gs_lp k (S, w, 0)) J → A 0 0 20 [some (.ref (z + a)), some (.int w), some (.int d), some (.int (gs_lp k (S, w, 0)).2.1), some (.int (nI k))] [] n R J L := by
    refine bq_down 8 ?_
    intro k hk ih J hJ
    have hok : gs_Ok (gs_lp k (S, w, 0)).1 := gs_Ok.lp (x := (S, w, 0)) hS k hk
    have hsucc : gs_lp (k + 1) (S, w, 0) = gs_st k (gs_lp k (S, w, 0)) := rfl
    rw [hsucc] at ih
    generalize hx : gs_lp k (S, w, 0) = x at hok ih hJ ⊢
    obtain ⟨⟨hC1, j0, j2, j10, j11⟩, hfr⟩ := hJ
    rcases Nat.lt_or_ge k 8 with hk8 | hk8
    · have ih := ih hk8
      have no : ∀ J' : bq_IR, ¬ (gs_1 k x.1 (51 + k) = 1 ∧ gs_1 k x.1 (19 + k) ≤ 0 ∧ 0 < x.2.1) → bq_MC J' a (gs_1 k x.1) → J' a 0 = I a 0 + 1 → J' a 2 = I a 2 → J' a 10 = x.2.2 → J' a 11 = I a 11 → (∀ y, (y < a ∨ a + 3 < y) → J' y = I y) → A 0 0 70 [some (.ref (z + a)), some (.int w), some (.int d), some (.int x.2.1), some (.int (nI k))] [] n R J' L := by
        intro J' hn m1 m2 m3 m4 m5 m6
        have e : gs_st k x = (gs_1 k x.1, x.2.1, x.2.2) := if_neg hn
        rw [e] at ih
        refine bq_iinc (q := 73) (ls' := [_, _, _, _, _]) G dX5_pass_70 rfl rfl (by first | exact nI_1 _ | exact pk_m1 _ | rfl) (by decide) rfl rfl ?_
        refine bq_goto (q := 20) G dX5_pass_73 (by decide) ?_
        exact ih J' ⟨⟨m1, m2, m3, m4, m5⟩, m6⟩
      refine bq_iload (q := 22) G rfl dX5_pass_20 rfl ?_
      refine bq_bipush (q := 24) (v := 8) G (by decide) dX5_pass_22 rfl ?_
      refine bq_icmp_ge_f (q := 27) (t := 76) G dX5_pass_24 rfl (by decide) (nI_ge (a := k) (b := 8) hk8 (by decide)) ?_
      refine bq_aload_n (q := 28) G rfl dX5_pass_27 rfl ?_
      refine bq_iload (q := 30) G rfl dX5_pass_28 rfl ?_
      refine bq_callv (q := 33) G dX5_pass_30 rfl cl_X5_50 (c_isThere hM0 hk8 hC1.2.2.2.2.2) rfl (by first | assumption | exact ⟨Nat.le_of_ble_eq_true rfl, rfl⟩) rfl ⟨Nat.le_of_ble_eq_true rfl, Nat.le_of_ble_eq_true rfl⟩ (Nat.le_of_ble_eq_true rfl) ⟨Nat.le_of_ble_eq_true rfl, Nat.le_of_ble_eq_true rfl⟩ rfl ?_
      first | refine bq_ifb_eq (t := 70) (q := 36) G dX5_pass_33 (by decide) rfl (fun c33 => ?_) (fun c33 => ?_) | refine bq_if_eq (t := 70) (q := 36) G dX5_pass_33 (by decide) rfl (fun c33 => ?_) (fun c33 => ?_)
      · refine no J (fun h => c33 (by rw [gs_1_51] at h; exact h.1)) (hC1.row (fun j _ _ _ => ?_)) j0 j2 j10 j11 hfr
        rw [gs_1_e]
        split
        · rename_i e
          have : x.1 (51 + k) = 0 := by
            rcases (hok.2 k hk8).2.2.2.2.2 with h | h
            · exact h
            · exact absurd h c33
          rw [e, this, Int32.sub_zero]
        · rfl
      · have ed : J (a + 3) k = x.1 (19 + k) := (hC1.2.1 k hk8).2.2
        have m1 : bq_MC (bq_sr J (a + 3) (upd (J (a + 3)) k (J (a + 3) k - 1))) a (gs_1 k x.1) := by
          have := hC1.due hk8 (J (a + 3) k - 1)
          unfold gs_1
          rw [c33, ← ed]
          exact this
        have fr1 : ∀ y, (y < a ∨ a + 3 < y) → bq_sr J (a + 3) (upd (J (a + 3)) k (J (a + 3) k - 1)) y = I y := fun y hy => by rw [bq_sr_n (by omega)]; exact hfr y hy
        have q0 : bq_sr J (a + 3) (upd (J (a + 3)) k (J (a + 3) k - 1)) a = J a := bq_sr_n (by omega)
        refine bq_aload_n (q := 37) G rfl dX5_pass_36 rfl ?_
        refine bq_getr (q := 40) G dX5_pass_37 rfl fl_X5_18 (by first | assumption | exact ⟨Nat.le_of_ble_eq_true rfl, rfl⟩) (fun _ _ _ => rfl) (by first | assumption | rfl) ?_
        refine bq_iload (q := 42) G rfl dX5_pass_40 rfl ?_
        refine bq_dup2 (q := 43) G rfl rfl dX5_pass_42 rfl ?_
        refine bq_iald (q := 44) G dX5_pass_43 rfl (by first | assumption | exact ⟨Nat.le_of_ble_eq_true rfl, rfl⟩) (by first | with_reducible assumption | with_reducible exact rfl | exact bq_ixa rfl (by with_reducible assumption) | exact rfl | exact bq_ixa rfl rfl | exact bq_ixa (by with_reducible assumption) rfl | exact bq_ixa rfl (bq_ixa (by first | rfl | with_reducible assumption) (by first | rfl | with_reducible assumption))) (by first | with_reducible assumption | omega | decide) (by decide) ?_
        refine bq_iconst (q := 45) (v := 1) G (by decide) dX5_pass_44 rfl ?_
        refine bq_isub (q := 46) G dX5_pass_45 rfl ?_
        refine bq_iast (q := 47) G dX5_pass_46 rfl (by first | assumption | exact ⟨Nat.le_of_ble_eq_true rfl, rfl⟩) (by first | with_reducible assumption | with_reducible exact rfl | exact bq_ixa rfl (by with_reducible assumption) | exact rfl | exact bq_ixa rfl rfl | exact bq_ixa (by with_reducible assumption) rfl | exact bq_ixa rfl (bq_ixa (by first | rfl | with_reducible assumption) (by first | rfl | with_reducible assumption))) (by first | with_reducible assumption | omega | decide) (by decide) ?_
        have e3 : bq_sr J (a + 3) (upd (J (a + 3)) k (J (a + 3) k - 1)) (a + 3) k = gs_1 k x.1 (19 + k) := (m1.2.1 k hk8).2.2
        generalize bq_sr J (a + 3) (upd (J (a + 3)) k (J (a + 3) k - 1)) = J1 at m1 fr1 q0 e3 ⊢
        rw [← q0] at j0 j2 j10 j11
        refine bq_aload_n (q := 48) G rfl dX5_pass_47 rfl ?_
        refine bq_getr (q := 51) G dX5_pass_48 rfl fl_X5_18 (by first | assumption | exact ⟨Nat.le_of_ble_eq_true rfl, rfl⟩) (fun _ _ _ => rfl) (by first | assumption | rfl) ?_
        refine bq_iload (q := 53) G rfl dX5_pass_51 rfl ?_
        refine bq_iald (q := 54) G dX5_pass_53 rfl (by first | assumption | exact ⟨Nat.le_of_ble_eq_true rfl, rfl⟩) (by first | with_reducible assumption | with_reducible exact rfl | exact bq_ixa rfl (by with_reducible assumption) | exact rfl | exact bq_ixa rfl rfl | exact bq_ixa (by with_reducible assumption) rfl | exact bq_ixa rfl (bq_ixa (by first | rfl | with_reducible assumption) (by first | rfl | with_reducible assumption))) (by first | with_reducible assumption | omega | decide) (by decide) ?_
        refine bq_if_gt (t := 70) (q := 57) G dX5_pass_54 (by decide) rfl (fun c54 => ?_) (fun c54 => ?_)
        · refine no J1 (fun h => ?_) m1 j0 j2 j10 j11 fr1
          rw [e3] at c54
          exact absurd c54 (Int32.not_lt.mpr h.2.1)
        · refine bq_iload_n (q := 58) G rfl dX5_pass_57 rfl ?_
          refine bq_if_le (t := 70) (q := 61) G dX5_pass_58 (by decide) rfl (fun c58 => ?_) (fun c58 => ?_)
          · refine no J1 (fun h => ?_) m1 j0 j2 j10 j11 fr1
            exact absurd h.2.2 (Int32.not_lt.mpr c58)
          · have e : gs_st k x = (gs_2 k (gs_1 k x.1), x.2.1 - 1, x.2.2 ||| (1 <<< (nI k &&& 31))) := if_pos ⟨by rw [gs_1_51]; exact c33, by rw [← e3]; exact Int32.not_lt.mp c54, Int32.not_le.mp c58⟩
            rw [e] at ih
            have ok1 := hok.one k hk8
            refine bq_iinc (q := 64) (ls' := [_, _, _, _, _]) G dX5_pass_61 rfl rfl (bq_m1 _) (by decide) rfl rfl ?_
            refine bq_aload_n (q := 65) G rfl dX5_pass_64 rfl ?_
            refine bq_iload (q := 67) G rfl dX5_pass_65 rfl ?_
            refine bq_callvV (q := 70) G dX5_pass_67 rfl cl_X5_54 (c_X5_comes hM m1 hk8 ok1.1 (ok1.2 k hk8).1) rfl (by first | assumption | exact ⟨Nat.le_of_ble_eq_true rfl, rfl⟩) rfl ⟨Nat.le_of_ble_eq_true rfl, Nat.le_of_ble_eq_true rfl⟩ (Nat.le_of_ble_eq_true rfl) ⟨Nat.le_of_ble_eq_true rfl, Nat.le_of_ble_eq_true rfl⟩ (fun I67 L67 h67 => ?_)
            obtain ⟨⟨p1, p2, p3, p4, p5⟩, p6, rfl⟩ := h67
            refine bq_iinc (q := 73) (ls' := [_, _, _, _, _]) G dX5_pass_70 rfl rfl (by first | exact nI_1 _ | exact pk_m1 _ | rfl) (by decide) rfl rfl ?_
            refine bq_goto (q := 20) G dX5_pass_73 (by decide) ?_
            exact ih I67 ⟨⟨p1, p2.trans j0, p3.trans j2, by rw [p4, j10], p5.trans j11⟩, fun y hy => (p6 y hy).trans (fr1 y hy)⟩
    · have hk9 : k = 8 := by omega
      subst hk9
      refine bq_iload (q := 22) G rfl dX5_pass_20 rfl ?_
      refine bq_bipush (q := 24) (v := 8) G (by decide) dX5_pass_22 rfl ?_
      refine bq_icmp_ge_t (t := 76) G dX5_pass_24 (by decide) (nI_le (a := 8) (b := 8) (by omega) (by decide)) ?_
      refine bq_aload_n (q := 77) G rfl dX5_pass_76 rfl ?_
      refine bq_iload_n (q := 78) G rfl dX5_pass_77 rfl ?_
      refine bq_aload_n (q := 79) G rfl dX5_pass_78 rfl ?_
      refine bq_geti (q := 82) G dX5_pass_79 rfl fl_X5_25 (by first | assumption | exact ⟨Nat.le_of_ble_eq_true rfl, rfl⟩) rfl ?_
      refine bq_calls (q := 85) G dX5_pass_82 rfl cl_X5_58 (c_J9_min_7cf53) rfl rfl ⟨Nat.le_of_ble_eq_true rfl, Nat.le_of_ble_eq_true rfl⟩ (Nat.le_of_ble_eq_true rfl) ⟨Nat.le_of_ble_eq_true rfl, Nat.le_of_ble_eq_true rfl⟩ rfl ?_
      refine bq_puti (q := 88) G dX5_pass_85 rfl fl_X5_63 (by first | assumption | exact ⟨Nat.le_of_ble_eq_true rfl, rfl⟩) rfl rfl ?_
      refine bq_aload_n (q := 89) G rfl dX5_pass_88 rfl ?_
      refine bq_dup (q := 90) G rfl dX5_pass_89 rfl ?_
      refine bq_geti (q := 93) G dX5_pass_90 rfl fl_X5_25 (by first | assumption | exact ⟨Nat.le_of_ble_eq_true rfl, rfl⟩) rfl ?_
      refine bq_aload_n (q := 94) G rfl dX5_pass_93 rfl ?_
      refine bq_geti (q := 97) G dX5_pass_94 rfl fl_X5_63 (by first | assumption | exact ⟨Nat.le_of_ble_eq_true rfl, rfl⟩) rfl ?_
      refine bq_isub (q := 98) G dX5_pass_97 rfl ?_
      refine bq_puti (q := 101) G dX5_pass_98 rfl fl_X5_25 (by first | assumption | exact ⟨Nat.le_of_ble_eq_true rfl, rfl⟩) rfl rfl ?_
      have hT : gs_T w S = x := hx
      have er : (if J a 1 < d then J a 1 else d) = gs_ran x.1 d := by rw [hC1.1]; rfl
      refine hret _ _ _ _ dX5_pass_101 ⟨⟨?_, ?_, ?_, ?_, ?_⟩, ?_, rfl⟩
      · have ev : bq_sr J a (upd (J a) 11 (if J a 1 < d then J a 1 else d)) a 1 - bq_sr J a (upd (J a) 11 (if J a 1 < d then J a 1 else d)) a 11 = x.1 1 - gs_ran x.1 d := by rw [bq_sru, bq_sru, if_neg (by decide), if_pos rfl, er, hC1.1]
        refine ((hC1.oth 11 _ (by omega)).water _).row (fun j _ h0 _ => ?_)
        unfold gs_min
        rw [hT, pk_un h0, ev]
      · simp [bq_sr, upd, j0]
      · simp [bq_sr, upd, j2]
      · rw [hT]; simp [bq_sr, upd, j10]
      · rw [hT]; simp [bq_sr, upd]; exact er
      · intro y hy
        rw [bq_sr_n (by omega), bq_sr_n (by omega)]
        exact hfr y hy
  refine bq_aload_n (q := 1) G rfl dX5_pass_0 rfl ?_
  refine bq_dup (q := 2) G rfl dX5_pass_1 rfl ?_
  refine bq_geti (q := 5) G dX5_pass_2 rfl fl_X5_21 (by first | assumption | exact ⟨Nat.le_of_ble_eq_true rfl, rfl⟩) rfl ?_
  refine bq_iconst (q := 6) (v := 1) G (by decide) dX5_pass_5 rfl ?_
  refine bq_iadd (q := 7) G dX5_pass_6 rfl ?_
  refine bq_puti (q := 10) G dX5_pass_7 rfl fl_X5_21 (by first | assumption | exact ⟨Nat.le_of_ble_eq_true rfl, rfl⟩) rfl rfl ?_
  refine bq_aload_n (q := 11) G rfl dX5_pass_10 rfl ?_
  refine bq_iconst (q := 12) (v := 0) G (by decide) dX5_pass_11 rfl ?_
  refine bq_puti (q := 15) G dX5_pass_12 rfl fl_X5_47 (by first | assumption | exact ⟨Nat.le_of_ble_eq_true rfl, rfl⟩) rfl rfl ?_
  refine bq_iload_n (q := 16) G rfl dX5_pass_15 rfl ?_
  refine bq_istore_n (q := 17) (ls' := [_, _, _, _, _]) G dX5_pass_16 rfl (by decide) rfl rfl ?_
  refine bq_iconst (q := 18) (v := 0) G (by decide) dX5_pass_17 rfl ?_
  refine bq_istore (q := 20) (ls' := [_, _, _, _, _]) G dX5_pass_18 rfl (by decide) rfl rfl ?_
  refine loop 0 (by omega) _ ⟨⟨(hC.oth 0 _ (by omega)).oth 10 0 (by omega), ?_, ?_, ?_, ?_⟩, ?_⟩
  · simp [bq_sr, upd]
  · simp [bq_sr, upd]
  · simp [bq_sr, upd, gs_lp]
  · simp [bq_sr, upd]
  · intro y hy
    simp only [bq_sr]
    (repeat' split) <;> first | rfl | omega
