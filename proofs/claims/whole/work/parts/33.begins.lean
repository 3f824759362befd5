/-! the model begins, tells; is it so; splits first; rates -/
def gs_bg (T : Nat → Int32) : Nat → (Nat → Int32) → Nat → Int32
  | 0, S => S
  | b + 1, S => upd (upd (upd (upd (gs_bg T b S) (3 + b) (T (8 + b))) (11 + b) (T (16 + b))) (19 + b) (T (24 + b))) (51 + b) 1
def gs_beg (T : Nat → Int32) (m : Nat) (S : Nat → Int32) : Nat → Int32 := gs_bg T m (upd (upd (gs_cp 59 (fun _ => 0) S) 1 (T 0)) 2 (T 0 / T 1))
theorem gs_bg_hi {T S : Nat → Int32} {j : Nat} (hj : 59 ≤ j) : ∀ b, b ≤ 8 → gs_bg T b S j = S j
  | 0, _ => rfl
  | b + 1, hb => by
    unfold gs_bg
    rw [pk_un (by omega), pk_un (by omega), pk_un (by omega), pk_un (by omega)]
    exact gs_bg_hi hj b (by omega)
theorem gs_beg_hi {T S : Nat → Int32} {m j : Nat} (hm : m ≤ 8) (hj : 59 ≤ j) : gs_beg T m S j = S j := by
  unfold gs_beg
  rw [gs_bg_hi hj m hm, pk_un (by omega), pk_un (by omega), gs_cp_ge hj]
theorem gs_beg_same {T S S' : Nat → Int32} {m : Nat} (h : ∀ j, 59 ≤ j → S j = S' j) : gs_beg T m S = gs_beg T m S' := by
  unfold gs_beg
  have : gs_cp 59 (fun _ => 0) S = gs_cp 59 (fun _ => 0) S' := by
    funext j
    rcases Nat.lt_or_ge j 59 with hj | hj
    · rw [gs_cp_lt hj, gs_cp_lt hj]
    · rw [gs_cp_ge hj, gs_cp_ge hj]; exact h j hj
  rw [this]
set_option maxHeartbeats 1000000 in
set_option maxRecDepth 100000 in
theorem c_X9_begins {z : Nat} {I : bq_IR} {L : bq_LR} {m : Nat} (hA : ¬ I 77 1 = 0) (hm5 : I 77 5 = nI m) (hm : m ≤ 8) : bq_FC MX9_begins z [.ref (z + 75)] 85 (bq_Rf z) I L 0 0 none 85 (bq_Rf z) (bq_sr I 79 (gs_beg (I 77) m (I 79))) (L) := by
  unfold gs_beg
  refine bq_ofV [some (.ref (z + 75)), none] rfl (Nat.le_of_ble_eq_true rfl) (by decide) rfl ?_
  intro A G hret
  have G : bq_Cx cX9_begins RX9 2 z (bq_rm MX9_begins 0 0) "begins" A := G
  have z0 : ∀ k, k ≤ 59 → A 0 0 2 [some (.ref (z + 75)), some (.int (nI k))] [] 85 (bq_Rf z) (bq_sr I 79 (gs_cp k (fun _ => 0) (I 79))) L := by
    refine bq_down 59 ?_
    intro k hk ih
    rcases Nat.lt_or_ge k 59 with hk8 | hk8
    · refine bq_iload_n (q := 3) G rfl dX9_begins_2 rfl ?_
      refine bq_bipush (q := 5) (v := 59) G (by decide) dX9_begins_3 rfl ?_
      refine bq_icmp_ge_f (q := 8) (t := 21) G dX9_begins_5 rfl (by decide) (nI_ge (a := k) (b := 59) hk8 (by decide)) ?_
      refine bq_aload_n (q := 9) G rfl dX9_begins_8 rfl ?_
      refine bq_getr (q := 12) G dX9_begins_9 rfl fl_X9_19 (by first | assumption | exact ⟨Nat.le_of_ble_eq_true rfl, rfl⟩) (fun _ _ _ => rfl) (rf_75_5 z) ?_
      refine bq_iload_n (q := 13) G rfl dX9_begins_12 rfl ?_
      refine bq_iconst (q := 14) (v := 0) G (by decide) dX9_begins_13 rfl ?_
      refine bq_iast (q := 15) G dX9_begins_14 rfl (by first | assumption | exact ⟨Nat.le_of_ble_eq_true rfl, rfl⟩) (by first | with_reducible assumption | with_reducible exact rfl | exact bq_ixa rfl (by with_reducible assumption) | exact rfl | exact bq_ixa rfl rfl | exact bq_ixa (by with_reducible assumption) rfl | exact bq_ixa rfl (bq_ixa (by first | rfl | with_reducible assumption) (by first | rfl | with_reducible assumption))) (by first | with_reducible assumption | omega | decide) (by decide) ?_
      refine bq_iinc (q := 18) (ls' := [_, _]) G dX9_begins_15 rfl rfl (by first | exact nI_1 _ | exact pk_m1 _ | rfl) (by decide) rfl rfl ?_
      refine bq_goto (q := 2) G dX9_begins_18 (by decide) ?_
      refine bq_I ?_ (ih hk8)
      rw [gs_cp_s, bq_sr_sr, bq_sr_s]
    · have hk9 : k = 59 := by omega
      subst hk9
      refine bq_iload_n (q := 3) G rfl dX9_begins_2 rfl ?_
      refine bq_bipush (q := 5) (v := 59) G (by decide) dX9_begins_3 rfl ?_
      refine bq_icmp_ge_t (t := 21) G dX9_begins_5 (by decide) (nI_le (a := 59) (b := 59) (by omega) (by decide)) ?_
      generalize gs_cp 59 (fun _ => 0) (I 79) = S0 at hret ⊢
      have e77 : ∀ f : Nat → Int32, bq_sr I 79 f 77 = I 77 := fun f => bq_sr_n (by decide)
      have loop : ∀ b, b ≤ m → A 0 0 45 [some (.ref (z + 75)), some (.int (nI b))] [] 85 (bq_Rf z) (bq_sr I 79 (gs_bg (I 77) b (upd (upd S0 1 (I 77 0)) 2 (I 77 0 / I 77 1)))) L := by
        refine bq_down m ?_
        intro b hb ihb
        rcases Nat.lt_or_ge b m with hb8 | hb8
        · refine bq_iload_n (q := 46) G rfl dX9_begins_45 rfl ?_
          refine bq_aload_n (q := 47) G rfl dX9_begins_46 rfl ?_
          refine bq_getr (q := 50) G dX9_begins_47 rfl fl_X9_13 (by first | assumption | exact ⟨Nat.le_of_ble_eq_true rfl, rfl⟩) (fun _ _ _ => rfl) (rf_75_3 z) ?_
          refine bq_iconst (q := 51) (v := 5) G (by decide) dX9_begins_50 rfl ?_
          refine bq_iald (q := 52) (b := 5) G dX9_begins_51 rfl (by first | assumption | exact ⟨Nat.le_of_ble_eq_true rfl, rfl⟩) rfl (by first | with_reducible assumption | omega | decide) (by decide) ?_
          refine bq_icmp_ge_f (q := 55) (t := 124) G dX9_begins_52 rfl (by decide) (by rw [e77, hm5]; exact nI_ge (a := b) (b := m) hb8 (by omega)) ?_
          refine bq_aload_n (q := 56) G rfl dX9_begins_55 rfl ?_
          refine bq_getr (q := 59) G dX9_begins_56 rfl fl_X9_19 (by first | assumption | exact ⟨Nat.le_of_ble_eq_true rfl, rfl⟩) (fun _ _ _ => rfl) (rf_75_5 z) ?_
          refine bq_iconst (q := 60) (v := 3) G (by decide) dX9_begins_59 rfl ?_
          refine bq_iload_n (q := 61) G rfl dX9_begins_60 rfl ?_
          refine bq_iadd (q := 62) G dX9_begins_61 rfl ?_
          refine bq_aload_n (q := 63) G rfl dX9_begins_62 rfl ?_
          refine bq_getr (q := 66) G dX9_begins_63 rfl fl_X9_13 (by first | assumption | exact ⟨Nat.le_of_ble_eq_true rfl, rfl⟩) (fun _ _ _ => rfl) (rf_75_3 z) ?_
          refine bq_bipush (q := 68) (v := 8) G (by decide) dX9_begins_66 rfl ?_
          refine bq_iload_n (q := 69) G rfl dX9_begins_68 rfl ?_
          refine bq_iadd (q := 70) G dX9_begins_69 rfl ?_
          refine bq_iald (q := 71) G dX9_begins_70 rfl (by first | assumption | exact ⟨Nat.le_of_ble_eq_true rfl, rfl⟩) (bq_ixa (a := 8) rfl (by first | with_reducible assumption | with_reducible exact rfl | exact rfl)) (by first | with_reducible assumption | omega | decide) (by decide) ?_
          refine bq_iast (q := 72) G dX9_begins_71 rfl (by first | assumption | exact ⟨Nat.le_of_ble_eq_true rfl, rfl⟩) (bq_ixa (a := 3) rfl (by first | with_reducible assumption | with_reducible exact rfl | exact rfl)) (by first | with_reducible assumption | omega | decide) (by decide) ?_
          refine bq_aload_n (q := 73) G rfl dX9_begins_72 rfl ?_
          refine bq_getr (q := 76) G dX9_begins_73 rfl fl_X9_19 (by first | assumption | exact ⟨Nat.le_of_ble_eq_true rfl, rfl⟩) (fun _ _ _ => rfl) (rf_75_5 z) ?_
          refine bq_bipush (q := 78) (v := 11) G (by decide) dX9_begins_76 rfl ?_
          refine bq_iload_n (q := 79) G rfl dX9_begins_78 rfl ?_
          refine bq_iadd (q := 80) G dX9_begins_79 rfl ?_
          refine bq_aload_n (q := 81) G rfl dX9_begins_80 rfl ?_
          refine bq_getr (q := 84) G dX9_begins_81 rfl fl_X9_13 (by first | assumption | exact ⟨Nat.le_of_ble_eq_true rfl, rfl⟩) (fun _ _ _ => rfl) (rf_75_3 z) ?_
          refine bq_bipush (q := 86) (v := 16) G (by decide) dX9_begins_84 rfl ?_
          refine bq_iload_n (q := 87) G rfl dX9_begins_86 rfl ?_
          refine bq_iadd (q := 88) G dX9_begins_87 rfl ?_
          refine bq_iald (q := 89) G dX9_begins_88 rfl (by first | assumption | exact ⟨Nat.le_of_ble_eq_true rfl, rfl⟩) (bq_ixa (a := 16) rfl (by first | with_reducible assumption | with_reducible exact rfl | exact rfl)) (by first | with_reducible assumption | omega | decide) (by decide) ?_
          refine bq_iast (q := 90) G dX9_begins_89 rfl (by first | assumption | exact ⟨Nat.le_of_ble_eq_true rfl, rfl⟩) (bq_ixa (a := 11) rfl (by first | with_reducible assumption | with_reducible exact rfl | exact rfl)) (by first | with_reducible assumption | omega | decide) (by decide) ?_
          refine bq_aload_n (q := 91) G rfl dX9_begins_90 rfl ?_
          refine bq_getr (q := 94) G dX9_begins_91 rfl fl_X9_19 (by first | assumption | exact ⟨Nat.le_of_ble_eq_true rfl, rfl⟩) (fun _ _ _ => rfl) (rf_75_5 z) ?_
          refine bq_bipush (q := 96) (v := 19) G (by decide) dX9_begins_94 rfl ?_
          refine bq_iload_n (q := 97) G rfl dX9_begins_96 rfl ?_
          refine bq_iadd (q := 98) G dX9_begins_97 rfl ?_
          refine bq_aload_n (q := 99) G rfl dX9_begins_98 rfl ?_
          refine bq_getr (q := 102) G dX9_begins_99 rfl fl_X9_13 (by first | assumption | exact ⟨Nat.le_of_ble_eq_true rfl, rfl⟩) (fun _ _ _ => rfl) (rf_75_3 z) ?_
          refine bq_bipush (q := 104) (v := 24) G (by decide) dX9_begins_102 rfl ?_
          refine bq_iload_n (q := 105) G rfl dX9_begins_104 rfl ?_
          refine bq_iadd (q := 106) G dX9_begins_105 rfl ?_
          refine bq_iald (q := 107) G dX9_begins_106 rfl (by first | assumption | exact ⟨Nat.le_of_ble_eq_true rfl, rfl⟩) (bq_ixa (a := 24) rfl (by first | with_reducible assumption | with_reducible exact rfl | exact rfl)) (by first | with_reducible assumption | omega | decide) (by decide) ?_
          refine bq_iast (q := 108) G dX9_begins_107 rfl (by first | assumption | exact ⟨Nat.le_of_ble_eq_true rfl, rfl⟩) (bq_ixa (a := 19) rfl (by first | with_reducible assumption | with_reducible exact rfl | exact rfl)) (by first | with_reducible assumption | omega | decide) (by decide) ?_
          refine bq_aload_n (q := 109) G rfl dX9_begins_108 rfl ?_
          refine bq_getr (q := 112) G dX9_begins_109 rfl fl_X9_19 (by first | assumption | exact ⟨Nat.le_of_ble_eq_true rfl, rfl⟩) (fun _ _ _ => rfl) (rf_75_5 z) ?_
          refine bq_bipush (q := 114) (v := 51) G (by decide) dX9_begins_112 rfl ?_
          refine bq_iload_n (q := 115) G rfl dX9_begins_114 rfl ?_
          refine bq_iadd (q := 116) G dX9_begins_115 rfl ?_
          refine bq_iconst (q := 117) (v := 1) G (by decide) dX9_begins_116 rfl ?_
          refine bq_iast (q := 118) G dX9_begins_117 rfl (by first | assumption | exact ⟨Nat.le_of_ble_eq_true rfl, rfl⟩) (bq_ixa (a := 51) rfl (by first | with_reducible assumption | with_reducible exact rfl | exact rfl)) (by first | with_reducible assumption | omega | decide) (by decide) ?_
          refine bq_iinc (q := 121) (ls' := [_, _]) G dX9_begins_118 rfl rfl (by first | exact nI_1 _ | exact pk_m1 _ | rfl) (by decide) rfl rfl ?_
          refine bq_goto (q := 45) G dX9_begins_121 (by decide) ?_
          refine bq_I ?_ (ihb hb8)
          simp only [bq_sr_s, bq_sr_sr, e77]
          rfl
        · have hb9 : b = m := by omega
          subst hb9
          refine bq_iload_n (q := 46) G rfl dX9_begins_45 rfl ?_
          refine bq_aload_n (q := 47) G rfl dX9_begins_46 rfl ?_
          refine bq_getr (q := 50) G dX9_begins_47 rfl fl_X9_13 (by first | assumption | exact ⟨Nat.le_of_ble_eq_true rfl, rfl⟩) (fun _ _ _ => rfl) (rf_75_3 z) ?_
          refine bq_iconst (q := 51) (v := 5) G (by decide) dX9_begins_50 rfl ?_
          refine bq_iald (q := 52) (b := 5) G dX9_begins_51 rfl (by first | assumption | exact ⟨Nat.le_of_ble_eq_true rfl, rfl⟩) rfl (by first | with_reducible assumption | omega | decide) (by decide) ?_
          refine bq_icmp_ge_t (t := 124) G dX9_begins_52 (by decide) (by rw [e77, hm5]; exact nI_le (a := b) (b := b) (by omega) (by omega)) ?_
          exact hret _ _ dX9_begins_124
      refine bq_aload_n (q := 22) G rfl dX9_begins_21 rfl ?_
      refine bq_getr (q := 25) G dX9_begins_22 rfl fl_X9_19 (by first | assumption | exact ⟨Nat.le_of_ble_eq_true rfl, rfl⟩) (fun _ _ _ => rfl) (rf_75_5 z) ?_
      refine bq_iconst (q := 26) (v := 1) G (by decide) dX9_begins_25 rfl ?_
      refine bq_aload_n (q := 27) G rfl dX9_begins_26 rfl ?_
      refine bq_getr (q := 30) G dX9_begins_27 rfl fl_X9_13 (by first | assumption | exact ⟨Nat.le_of_ble_eq_true rfl, rfl⟩) (fun _ _ _ => rfl) (rf_75_3 z) ?_
      refine bq_iconst (q := 31) (v := 0) G (by decide) dX9_begins_30 rfl ?_
      refine bq_iald (q := 32) (b := 0) G dX9_begins_31 rfl (by first | assumption | exact ⟨Nat.le_of_ble_eq_true rfl, rfl⟩) rfl (by first | with_reducible assumption | omega | decide) (by decide) ?_
      refine bq_iast (q := 33) (b := 1) G dX9_begins_32 rfl (by first | assumption | exact ⟨Nat.le_of_ble_eq_true rfl, rfl⟩) rfl (by first | with_reducible assumption | omega | decide) (by decide) ?_
      refine bq_aload_n (q := 34) G rfl dX9_begins_33 rfl ?_
      refine bq_getr (q := 37) G dX9_begins_34 rfl fl_X9_19 (by first | assumption | exact ⟨Nat.le_of_ble_eq_true rfl, rfl⟩) (fun _ _ _ => rfl) (rf_75_5 z) ?_
      refine bq_iconst (q := 38) (v := 2) G (by decide) dX9_begins_37 rfl ?_
      refine bq_aload_n (q := 39) G rfl dX9_begins_38 rfl ?_
      refine bq_callv (q := 42) G dX9_begins_39 rfl cl_X9_88 (c_X9_high (by rw [bq_sr_n (by decide), e77]; exact hA)) rfl (by first | assumption | exact ⟨Nat.le_of_ble_eq_true rfl, rfl⟩) rfl ⟨Nat.le_of_ble_eq_true rfl, Nat.le_of_ble_eq_true rfl⟩ (Nat.le_of_ble_eq_true rfl) ⟨Nat.le_of_ble_eq_true rfl, Nat.le_of_ble_eq_true rfl⟩ rfl ?_
      refine bq_iast (q := 43) (b := 2) G dX9_begins_42 rfl (by first | assumption | exact ⟨Nat.le_of_ble_eq_true rfl, rfl⟩) rfl (by first | with_reducible assumption | omega | decide) (by decide) ?_
      refine bq_iconst (q := 44) (v := 0) G (by decide) dX9_begins_43 rfl ?_
      refine bq_istore_n (q := 45) (ls' := [_, _]) G dX9_begins_44 rfl (by decide) rfl rfl ?_
      refine bq_I ?_ (loop 0 (by omega))
      simp only [bq_sr_s, bq_sr_sr, e77, pk_us]
      rfl
  refine bq_iconst (q := 1) (v := 0) G (by decide) dX9_begins_0 rfl ?_
  refine bq_istore_n (q := 2) (ls' := [_, _]) G dX9_begins_1 rfl (by decide) rfl rfl ?_
  refine bq_I ?_ (z0 0 (by omega))
  rw [gs_cp_0, bq_sr_id]
set_option maxHeartbeats 1000000 in
set_option maxRecDepth 100000 in
theorem c_X9_tells {z : Nat} {I : bq_IR} {L : bq_LR} {m : Nat} (hA : ¬ I 78 1 = 0) (hm5 : I 78 5 = nI m) (hm : m ≤ 8) : bq_FC MX9_tells z [.ref (z + 75)] 85 (bq_Rf z) I L 0 0 none 85 (bq_Rf z) (bq_sr (bq_sr (bq_sr (bq_sr I 77 (gs_cp 32 (I 78) (I 77))) 79 (gs_beg (gs_cp 32 (I 78) (I 77)) m (I 79))) 75 (upd (upd (I 75) 7 0) 11 0)) 82 (upd (upd (I 82) 0 0) 1 0)) (L) := by
  refine bq_ofV [some (.ref (z + 75)), none] rfl (Nat.le_of_ble_eq_true rfl) (by decide) rfl ?_
  intro A G hret
  have G : bq_Cx cX9_tells RX9 2 z (bq_rm MX9_tells 0 0) "tells" A := G
  have loop : ∀ k, k ≤ 32 → A 0 0 2 [some (.ref (z + 75)), some (.int (nI k))] [] 85 (bq_Rf z) (bq_sr I 77 (gs_cp k (I 78) (I 77))) L := by
    refine bq_down 32 ?_
    intro k hk ih
    rcases Nat.lt_or_ge k 32 with hk8 | hk8
    · refine bq_iload_n (q := 3) G rfl dX9_tells_2 rfl ?_
      refine bq_bipush (q := 5) (v := 32) G (by decide) dX9_tells_3 rfl ?_
      refine bq_icmp_ge_f (q := 8) (t := 26) G dX9_tells_5 rfl (by decide) (nI_ge (a := k) (b := 32) hk8 (by decide)) ?_
      refine bq_aload_n (q := 9) G rfl dX9_tells_8 rfl ?_
      refine bq_getr (q := 12) G dX9_tells_9 rfl fl_X9_13 (by first | assumption | exact ⟨Nat.le_of_ble_eq_true rfl, rfl⟩) (fun _ _ _ => rfl) (rf_75_3 z) ?_
      refine bq_iload_n (q := 13) G rfl dX9_tells_12 rfl ?_
      refine bq_aload_n (q := 14) G rfl dX9_tells_13 rfl ?_
      refine bq_getr (q := 17) G dX9_tells_14 rfl fl_X9_16 (by first | assumption | exact ⟨Nat.le_of_ble_eq_true rfl, rfl⟩) (fun _ _ _ => rfl) (rf_75_4 z) ?_
      refine bq_iload_n (q := 18) G rfl dX9_tells_17 rfl ?_
      refine bq_iald (q := 19) G dX9_tells_18 rfl (by first | assumption | exact ⟨Nat.le_of_ble_eq_true rfl, rfl⟩) (by first | with_reducible assumption | with_reducible exact rfl | exact bq_ixa rfl (by with_reducible assumption) | exact rfl | exact bq_ixa rfl rfl | exact bq_ixa (by with_reducible assumption) rfl | exact bq_ixa rfl (bq_ixa (by first | rfl | with_reducible assumption) (by first | rfl | with_reducible assumption))) (by first | with_reducible assumption | omega | decide) (by decide) ?_
      refine bq_iast (q := 20) G dX9_tells_19 rfl (by first | assumption | exact ⟨Nat.le_of_ble_eq_true rfl, rfl⟩) (by first | with_reducible assumption | with_reducible exact rfl | exact bq_ixa rfl (by with_reducible assumption) | exact rfl | exact bq_ixa rfl rfl | exact bq_ixa (by with_reducible assumption) rfl | exact bq_ixa rfl (bq_ixa (by first | rfl | with_reducible assumption) (by first | rfl | with_reducible assumption))) (by first | with_reducible assumption | omega | decide) (by decide) ?_
      refine bq_iinc (q := 23) (ls' := [_, _]) G dX9_tells_20 rfl rfl (by first | exact nI_1 _ | exact pk_m1 _ | rfl) (by decide) rfl rfl ?_
      refine bq_goto (q := 2) G dX9_tells_23 (by decide) ?_
      refine bq_I ?_ (ih hk8)
      rw [gs_cp_s, bq_sr_sr, bq_sr_s, bq_sr_n (show (78 : Nat) ≠ 77 by decide)]
    · have hk9 : k = 32 := by omega
      subst hk9
      have e1 : bq_sr I 77 (gs_cp 32 (I 78) (I 77)) 77 1 = I 78 1 := by rw [bq_sr_s, gs_cp_lt (by decide)]
      have e5 : bq_sr I 77 (gs_cp 32 (I 78) (I 77)) 77 5 = nI m := by rw [bq_sr_s, gs_cp_lt (by decide)]; exact hm5
      refine bq_iload_n (q := 3) G rfl dX9_tells_2 rfl ?_
      refine bq_bipush (q := 5) (v := 32) G (by decide) dX9_tells_3 rfl ?_
      refine bq_icmp_ge_t (t := 26) G dX9_tells_5 (by decide) (nI_le (a := 32) (b := 32) (by omega) (by decide)) ?_
      refine bq_aload_n (q := 27) G rfl dX9_tells_26 rfl ?_
      refine bq_callv (q := 30) G dX9_tells_27 rfl cl_X9_92 (c_X9_begins (by rw [e1]; exact hA) e5 hm) rfl (by first | assumption | exact ⟨Nat.le_of_ble_eq_true rfl, rfl⟩) rfl ⟨Nat.le_of_ble_eq_true rfl, Nat.le_of_ble_eq_true rfl⟩ (Nat.le_of_ble_eq_true rfl) ⟨Nat.le_of_ble_eq_true rfl, Nat.le_of_ble_eq_true rfl⟩ rfl ?_
      refine bq_aload_n (q := 31) G rfl dX9_tells_30 rfl ?_
      refine bq_iconst (q := 32) (v := 0) G (by decide) dX9_tells_31 rfl ?_
      refine bq_puti (q := 35) G dX9_tells_32 rfl fl_X9_95 (by first | assumption | exact ⟨Nat.le_of_ble_eq_true rfl, rfl⟩) rfl rfl ?_
      refine bq_aload_n (q := 36) G rfl dX9_tells_35 rfl ?_
      refine bq_iconst (q := 37) (v := 0) G (by decide) dX9_tells_36 rfl ?_
      refine bq_puti (q := 40) G dX9_tells_37 rfl fl_X9_98 (by first | assumption | exact ⟨Nat.le_of_ble_eq_true rfl, rfl⟩) rfl rfl ?_
      refine bq_aload_n (q := 41) G rfl dX9_tells_40 rfl ?_
      refine bq_getr (q := 44) G dX9_tells_41 rfl fl_X9_28 (by first | assumption | exact ⟨Nat.le_of_ble_eq_true rfl, rfl⟩) (fun _ _ _ => rfl) (rf_75_9 z) ?_
      refine bq_iconst (q := 45) (v := 0) G (by decide) dX9_tells_44 rfl ?_
      refine bq_iconst (q := 46) (v := 0) G (by decide) dX9_tells_45 rfl ?_
      refine bq_zast (q := 47) (b := 0) G dX9_tells_46 rfl (by first | assumption | exact ⟨Nat.le_of_ble_eq_true rfl, rfl⟩) rfl (by first | with_reducible assumption | omega | decide) (by decide) ⟨rfl, rfl⟩ ?_
      refine bq_aload_n (q := 48) G rfl dX9_tells_47 rfl ?_
      refine bq_getr (q := 51) G dX9_tells_48 rfl fl_X9_28 (by first | assumption | exact ⟨Nat.le_of_ble_eq_true rfl, rfl⟩) (fun _ _ _ => rfl) (rf_75_9 z) ?_
      refine bq_iconst (q := 52) (v := 1) G (by decide) dX9_tells_51 rfl ?_
      refine bq_iconst (q := 53) (v := 0) G (by decide) dX9_tells_52 rfl ?_
      refine bq_zast (q := 54) (b := 1) G dX9_tells_53 rfl (by first | assumption | exact ⟨Nat.le_of_ble_eq_true rfl, rfl⟩) rfl (by first | with_reducible assumption | omega | decide) (by decide) ⟨rfl, rfl⟩ ?_
      refine bq_rv (hret _ _ dX9_tells_54) rfl ?_ rfl
      simp only [bq_sr_s, bq_sr_sr, bq_sr_n (show (79 : Nat) ≠ 77 by decide), bq_sr_n (show (75 : Nat) ≠ 79 by decide), bq_sr_n (show (75 : Nat) ≠ 77 by decide), bq_sr_n (show (82 : Nat) ≠ 75 by decide), bq_sr_n (show (82 : Nat) ≠ 79 by decide), bq_sr_n (show (82 : Nat) ≠ 77 by decide)]
  refine bq_iconst (q := 1) (v := 0) G (by decide) dX9_tells_0 rfl ?_
  refine bq_istore_n (q := 2) (ls' := [_, _]) G dX9_tells_1 rfl (by decide) rfl rfl ?_
  refine bq_I ?_ (loop 0 (by omega))
  rw [gs_cp_0, bq_sr_id]
def gs_so (M : Nat → Int32) (q : Nat) (w d ar : Int32) (S : Nat → Int32) (n : Nat) : Prop := ∀ k, k < n → ∀ i, i < q → M (2 * i) = nI k → M (2 * i + 1) = gs_it w d ar S k 1
set_option maxHeartbeats 1000000 in
set_option maxRecDepth 100000 in
theorem c_X9_isSo {z : Nat} {I : bq_IR} {L : bq_LR} {q : Nat} (hA : ¬ I 77 1 = 0) (hq : I 75 11 = nI q) (hq4 : q ≤ 4) : bq_FI MX9_isSo z [.ref (z + 75)] 85 (bq_Rf z) I L (fun r J L' => ((r = 1 ∧ gs_so (I 83) q (I 75 16) (I 75 17) (I 77 1) (I 79) 41) ∨ (r = 0 ∧ ¬ gs_so (I 83) q (I 75 16) (I 75 17) (I 77 1) (I 79) 41)) ∧ gs_mI I (I 75 16) (I 75 17) 41 J ∧ L' = L) := by
  refine bq_FIof [some (.ref (z + 75)), none, none, none] rfl (Nat.le_of_ble_eq_true rfl) (by decide) rfl (fun r I' L' h => by rcases h.1 with ⟨e, -⟩ | ⟨e, -⟩ <;> (rw [e]; rfl)) ?_
  intro A G hret
  have G : bq_Cx cX9_isSo RX9 4 z (bq_rm MX9_isSo 0 0) "isSo" A := G
  have loop : ∀ k, k ≤ 41 → ∀ (v : Int32) (J : bq_IR), ((v = 1 ∧ gs_so (I 83) q (I 75 16) (I 75 17) (I 77 1) (I 79) k) ∨ (v = 0 ∧ ¬ gs_so (I 83) q (I 75 16) (I 75 17) (I 77 1) (I 79) k)) → gs_mI I (I 75 16) (I 75 17) k J → A 0 0 4 [some (.ref (z + 75)), some (.int v), some (.int (nI k)), none] [] 85 (bq_Rf z) J L := by
    refine bq_down 41 ?_
    intro k hk ih v J hv hJ
    rcases Nat.lt_or_ge k 41 with hk8 | hk8
    · have eq : J 75 11 = nI q := by rw [hJ.2.1.2.2 11 (by decide)]; exact hq
      have eM : J 83 = I 83 := hJ.2.2 83 (by decide) (by decide)
      have eS : J 79 1 = gs_it (I 75 16) (I 75 17) (I 77 1) (I 79) k 1 := by rw [hJ.1]
      have hA2 : ¬ J 77 1 = 0 := by rw [hJ.2.2 77 (by decide) (by decide)]; exact hA
      have inner : ∀ i, i ≤ q → ∀ v : Int32, ((v = 1 ∧ (gs_so (I 83) q (I 75 16) (I 75 17) (I 77 1) (I 79) k ∧ ∀ i', i' < i → I 83 (2 * i') = nI k → I 83 (2 * i' + 1) = gs_it (I 75 16) (I 75 17) (I 77 1) (I 79) k 1)) ∨ (v = 0 ∧ ¬ (gs_so (I 83) q (I 75 16) (I 75 17) (I 77 1) (I 79) k ∧ ∀ i', i' < i → I 83 (2 * i') = nI k → I 83 (2 * i' + 1) = gs_it (I 75 16) (I 75 17) (I 77 1) (I 79) k 1))) → A 0 0 12 [some (.ref (z + 75)), some (.int v), some (.int (nI k)), some (.int (nI i))] [] 85 (bq_Rf z) J L := by
        refine bq_down q ?_
        intro i hi ihi v hv
        rcases Nat.lt_or_ge i q with hi8 | hi8
        · have ihi := ihi hi8
          have nxt : ∀ v' : Int32, ((v' = 1 ∧ (gs_so (I 83) q (I 75 16) (I 75 17) (I 77 1) (I 79) k ∧ ∀ i', i' < i + 1 → I 83 (2 * i') = nI k → I 83 (2 * i' + 1) = gs_it (I 75 16) (I 75 17) (I 77 1) (I 79) k 1)) ∨ (v' = 0 ∧ ¬ (gs_so (I 83) q (I 75 16) (I 75 17) (I 77 1) (I 79) k ∧ ∀ i', i' < i + 1 → I 83 (2 * i') = nI k → I 83 (2 * i' + 1) = gs_it (I 75 16) (I 75 17) (I 77 1) (I 79) k 1))) → A 0 0 60 [some (.ref (z + 75)), some (.int v), some (.int (nI k)), some (.int (nI i))] [.int v'] 85 (bq_Rf z) J L := by
            intro v' h
            refine bq_istore_n (q := 61) (ls' := [_, _, _, _]) G dX9_isSo_60 rfl (by decide) rfl rfl ?_
            refine bq_iinc (q := 64) (ls' := [_, _, _, _]) G dX9_isSo_61 rfl rfl (by first | exact nI_1 _ | exact pk_m1 _ | rfl) (by decide) rfl rfl ?_
            refine bq_goto (q := 12) G dX9_isSo_64 (by decide) ?_
            exact ihi v' h
          rcases hv with ⟨rfl, hv1, hv2⟩ | ⟨rfl, hv⟩
          · have good : (I 83 (2 * i) = nI k → I 83 (2 * i + 1) = gs_it (I 75 16) (I 75 17) (I 77 1) (I 79) k 1) → A 0 0 55 [some (.ref (z + 75)), some (.int 1), some (.int (nI k)), some (.int (nI i))] [] 85 (bq_Rf z) J L := by
              intro h
              refine bq_iconst (q := 56) (v := 1) G (by decide) dX9_isSo_55 rfl ?_
              refine bq_goto (q := 60) G dX9_isSo_56 (by decide) ?_
              refine nxt 1 (Or.inl ⟨rfl, hv1, fun i' hi' => ?_⟩)
              rcases Nat.lt_or_ge i' i with h1 | h1
              · exact hv2 i' h1
              · have : i' = i := by omega
                subst this; exact h
            refine bq_iload_n (q := 13) G rfl dX9_isSo_12 rfl ?_
            refine bq_aload_n (q := 14) G rfl dX9_isSo_13 rfl ?_
            refine bq_geti (q := 17) G dX9_isSo_14 rfl fl_X9_98 (by first | assumption | exact ⟨Nat.le_of_ble_eq_true rfl, rfl⟩) rfl ?_
            refine bq_icmp_ge_f (q := 20) (t := 67) G dX9_isSo_17 rfl (by decide) (by rw [eq]; exact nI_ge (a := i) (b := q) hi8 (by omega)) ?_
            refine bq_iload_n (q := 21) G rfl dX9_isSo_20 rfl ?_
            refine bq_if_eq_f (q := 24) (t := 59) G dX9_isSo_21 rfl (by decide) (by decide) ?_
            refine bq_aload_n (q := 25) G rfl dX9_isSo_24 rfl ?_
            refine bq_getr (q := 28) G dX9_isSo_25 rfl fl_X9_32 (by first | assumption | exact ⟨Nat.le_of_ble_eq_true rfl, rfl⟩) (fun _ _ _ => rfl) (rf_75_10 z) ?_
            refine bq_iconst (q := 29) (v := 2) G (by decide) dX9_isSo_28 rfl ?_
            refine bq_iload_n (q := 30) G rfl dX9_isSo_29 rfl ?_
            refine bq_imul (q := 31) G dX9_isSo_30 rfl ?_
            refine bq_iald (q := 32) (b := 2 * i) G dX9_isSo_31 rfl (by first | assumption | exact ⟨Nat.le_of_ble_eq_true rfl, rfl⟩) (bq_ixm (a := 2) rfl rfl) (by first | with_reducible assumption | omega | decide) (by decide) ?_
            refine bq_iload_n (q := 33) G rfl dX9_isSo_32 rfl ?_
            refine bq_icmp_ne (t := 55) (q := 36) G dX9_isSo_33 (by decide) rfl (fun c33 => ?_) (fun c33 => ?_)
            · rw [eM] at c33
              exact good (fun h => absurd h c33)
            · rw [eM] at c33
              refine bq_aload_n (q := 37) G rfl dX9_isSo_36 rfl ?_
              refine bq_getr (q := 40) G dX9_isSo_37 rfl fl_X9_32 (by first | assumption | exact ⟨Nat.le_of_ble_eq_true rfl, rfl⟩) (fun _ _ _ => rfl) (rf_75_10 z) ?_
              refine bq_iconst (q := 41) (v := 2) G (by decide) dX9_isSo_40 rfl ?_
              refine bq_iload_n (q := 42) G rfl dX9_isSo_41 rfl ?_
              refine bq_imul (q := 43) G dX9_isSo_42 rfl ?_
              refine bq_iconst (q := 44) (v := 1) G (by decide) dX9_isSo_43 rfl ?_
              refine bq_iadd (q := 45) G dX9_isSo_44 rfl ?_
              refine bq_iald (q := 46) (b := 2 * i + 1) G dX9_isSo_45 rfl (by first | assumption | exact ⟨Nat.le_of_ble_eq_true rfl, rfl⟩) (bq_ixa (bq_ixm (a := 2) rfl rfl) rfl) (by first | with_reducible assumption | omega | decide) (by decide) ?_
              refine bq_aload_n (q := 47) G rfl dX9_isSo_46 rfl ?_
              refine bq_getr (q := 50) G dX9_isSo_47 rfl fl_X9_19 (by first | assumption | exact ⟨Nat.le_of_ble_eq_true rfl, rfl⟩) (fun _ _ _ => rfl) (rf_75_5 z) ?_
              refine bq_iconst (q := 51) (v := 1) G (by decide) dX9_isSo_50 rfl ?_
              refine bq_iald (q := 52) (b := 1) G dX9_isSo_51 rfl (by first | assumption | exact ⟨Nat.le_of_ble_eq_true rfl, rfl⟩) rfl (by first | with_reducible assumption | omega | decide) (by decide) ?_
              refine bq_icmp_ne (t := 59) (q := 55) G dX9_isSo_52 (by decide) rfl (fun c52 => ?_) (fun c52 => ?_)
              · rw [eM, eS] at c52
                refine bq_iconst (q := 60) (v := 0) G (by decide) dX9_isSo_59 rfl ?_
                exact nxt 0 (Or.inr ⟨rfl, fun h => c52 (h.2 i (by omega) c33)⟩)
              · rw [eM, eS] at c52
                exact good (fun _ => c52)
          · refine bq_iload_n (q := 13) G rfl dX9_isSo_12 rfl ?_
            refine bq_aload_n (q := 14) G rfl dX9_isSo_13 rfl ?_
            refine bq_geti (q := 17) G dX9_isSo_14 rfl fl_X9_98 (by first | assumption | exact ⟨Nat.le_of_ble_eq_true rfl, rfl⟩) rfl ?_
            refine bq_icmp_ge_f (q := 20) (t := 67) G dX9_isSo_17 rfl (by decide) (by rw [eq]; exact nI_ge (a := i) (b := q) hi8 (by omega)) ?_
            refine bq_iload_n (q := 21) G rfl dX9_isSo_20 rfl ?_
            refine bq_if_eq_t (t := 59) G dX9_isSo_21 (by decide) rfl ?_
            refine bq_iconst (q := 60) (v := 0) G (by decide) dX9_isSo_59 rfl ?_
            exact nxt 0 (Or.inr ⟨rfl, fun h => hv ⟨h.1, fun i' hi' => h.2 i' (by omega)⟩⟩)
        · have hi9 : i = q := by omega
          subst hi9
          refine bq_iload_n (q := 13) G rfl dX9_isSo_12 rfl ?_
          refine bq_aload_n (q := 14) G rfl dX9_isSo_13 rfl ?_
          refine bq_geti (q := 17) G dX9_isSo_14 rfl fl_X9_98 (by first | assumption | exact ⟨Nat.le_of_ble_eq_true rfl, rfl⟩) rfl ?_
          refine bq_icmp_ge_t (t := 67) G dX9_isSo_17 (by decide) (by rw [eq]; exact nI_le (a := i) (b := i) (by omega) (by omega)) ?_
          refine bq_aload_n (q := 68) G rfl dX9_isSo_67 rfl ?_
          refine bq_callv (q := 71) G dX9_isSo_68 rfl cl_X9_123 (c_X9_goes hA2) rfl (by first | assumption | exact ⟨Nat.le_of_ble_eq_true rfl, rfl⟩) rfl ⟨Nat.le_of_ble_eq_true rfl, Nat.le_of_ble_eq_true rfl⟩ (Nat.le_of_ble_eq_true rfl) ⟨Nat.le_of_ble_eq_true rfl, Nat.le_of_ble_eq_true rfl⟩ rfl ?_
          refine bq_pop (q := 72) G rfl dX9_isSo_71 rfl ?_
          refine bq_iinc (q := 75) (ls' := [_, _, _, _]) G dX9_isSo_72 rfl rfl (by first | exact nI_1 _ | exact pk_m1 _ | rfl) (by decide) rfl rfl ?_
          refine bq_goto (q := 4) G dX9_isSo_75 (by decide) ?_
          have key : gs_so (I 83) i (I 75 16) (I 75 17) (I 77 1) (I 79) (k + 1) ↔ (gs_so (I 83) i (I 75 16) (I 75 17) (I 77 1) (I 79) k ∧ ∀ i', i' < i → I 83 (2 * i') = nI k → I 83 (2 * i' + 1) = gs_it (I 75 16) (I 75 17) (I 77 1) (I 79) k 1) := by
            refine ⟨fun h => ⟨fun k' hk' => h k' (by omega), h k (by omega)⟩, fun h k' hk' => ?_⟩
            rcases Nat.lt_or_ge k' k with h1 | h1
            · exact h.1 k' h1
            · have : k' = k := by omega
              subst this; exact h.2
          refine bq_forget G ?_ (ih hk8 v _ ?_ hJ.go)
          · repeat (first | exact bq_le_0 _ | refine bq_le_n ?_ | refine bq_le_s rfl ?_)
          · rw [key]; exact hv
      refine bq_iload_n (q := 5) G rfl dX9_isSo_4 rfl ?_
      refine bq_bipush (q := 7) (v := 41) G (by decide) dX9_isSo_5 rfl ?_
      refine bq_icmp_ge_f (q := 10) (t := 78) G dX9_isSo_7 rfl (by decide) (nI_ge (a := k) (b := 41) hk8 (by decide)) ?_
      refine bq_iconst (q := 11) (v := 0) G (by decide) dX9_isSo_10 rfl ?_
      refine bq_istore_n (q := 12) (ls' := [_, _, _, _]) G dX9_isSo_11 rfl (by decide) rfl rfl ?_
      refine inner 0 (by omega) v ?_
      rcases hv with ⟨e, h⟩ | ⟨e, h⟩
      · exact Or.inl ⟨e, h, fun i' hi' => by omega⟩
      · exact Or.inr ⟨e, fun h2 => h h2.1⟩
    · have hk9 : k = 41 := by omega
      subst hk9
      refine bq_iload_n (q := 5) G rfl dX9_isSo_4 rfl ?_
      refine bq_bipush (q := 7) (v := 41) G (by decide) dX9_isSo_5 rfl ?_
      refine bq_icmp_ge_t (t := 78) G dX9_isSo_7 (by decide) (nI_le (a := 41) (b := 41) (by omega) (by decide)) ?_
      refine bq_iload_n (q := 79) G rfl dX9_isSo_78 rfl ?_
      exact hret _ _ _ _ _ dX9_isSo_79 ⟨hv, hJ, rfl⟩
  refine bq_iconst (q := 1) (v := 1) G (by decide) dX9_isSo_0 rfl ?_
  refine bq_istore_n (q := 2) (ls' := [_, _, _, _]) G dX9_isSo_1 rfl (by decide) rfl rfl ?_
  refine bq_iconst (q := 3) (v := 0) G (by decide) dX9_isSo_2 rfl ?_
  refine bq_istore_n (q := 4) (ls' := [_, _, _, _]) G dX9_isSo_3 rfl (by decide) rfl rfl ?_
  exact loop 0 (by omega) 1 I (Or.inl ⟨rfl, fun k hk => by omega⟩) ⟨rfl, ⟨rfl, rfl, fun _ _ => rfl⟩, fun _ _ _ => rfl⟩
/-- f is what splitFirst has behind the first b brooms -/
def gs_sf (M : Nat → Int32) (q : Nat) (T B : Nat → Int32) : Nat → Int32 → Prop
  | 0, x => (gs_so M q (T 4) (T 2) (T 1) B 41 ∧ x = 256) ∨ (¬ gs_so M q (T 4) (T 2) (T 1) B 41 ∧ x = 0)
  | b + 1, x => ∃ f, gs_sf M q T B b f ∧ (((B (3 + b) = 1 ∨ ¬ gs_fk B 8 0 = -9) ∧ gs_so M q (T 4) (T 2) (T 1) (gs_sp b B) 41 ∧ x = f ||| (1 <<< (nI b &&& 31))) ∨ (¬ ((B (3 + b) = 1 ∨ ¬ gs_fk B 8 0 = -9) ∧ gs_so M q (T 4) (T 2) (T 1) (gs_sp b B) 41) ∧ x = f))
theorem gs_sp_hi {k : Nat} (hk : k < 8) {S : Nat → Int32} {j : Nat} (hj : 59 ≤ j) : gs_sp k S j = S j := by
  unfold gs_sp
  split
  · rw [pk_un (by omega)]
  · have ho : gs_o S < 8 ∨ 8 ≤ gs_o S := Nat.lt_or_ge _ _
    have e1 : gs_s1 k S j = S j := by unfold gs_s1; rw [pk_un (by omega), pk_un (by omega)]
    have h8 : gs_o S < 8 := by
      unfold gs_o
      rcases gs_fk_or S 8 0 with h | ⟨o, -, h2, h3, -⟩
      · rw [h]; decide
      · rw [h3, nI_clamp (by omega)]; omega
    rw [gs_c7_out h8 7 j (fun i hi => by omega), e1]
set_option maxHeartbeats 1000000 in
set_option maxRecDepth 100000 in
theorem c_X9_splitFirst {z : Nat} {I : bq_IR} {L : bq_LR} {q m : Nat} (hA : ¬ I 77 1 = 0) (hq : I 75 11 = nI q) (hq4 : q ≤ 4) (hm5 : I 77 5 = nI m) (hm : m ≤ 8) : bq_FI MX9_splitFirst z [.ref (z + 75)] 85 (bq_Rf z) I L (fun r J L' => gs_sf (I 83) q (I 77) (gs_beg (I 77) m (I 79)) m r ∧ gs_mK I J ∧ L' = L) := by
  refine bq_FIof [some (.ref (z + 75)), none, none] rfl (Nat.le_of_ble_eq_true rfl) (by decide) rfl (fun _ _ _ _ => rfl) ?_
  intro A G hret
  have G : bq_Cx cX9_splitFirst RX9 3 z (bq_rm MX9_splitFirst 0 0) "splitFirst" A := G
  -- between two looks: only the row differs, and only below 59
  have on : ∀ J : bq_IR, gs_on1 I J → J 75 16 = I 77 4 → J 75 17 = I 77 2 → ∀ S : Nat → Int32, (∀ j, 59 ≤ j → S j = I 79 j) → gs_on1 I (bq_sr J 79 S) ∧ bq_sr J 79 S 75 16 = I 77 4 ∧ bq_sr J 79 S 75 17 = I 77 2 := by
    intro J h hw hd S hS
    refine ⟨⟨⟨fun j hj => ?_, fun j hj => ?_⟩, fun j a b c => ?_, fun x a b c => ?_⟩, ?_, ?_⟩
    · rw [bq_sr_n (by decide)]; exact h.1.1 j hj
    · rw [bq_sr_s]; exact hS j hj
    · rw [bq_sr_n (by decide)]; exact h.2.1 j a b c
    · rw [bq_sr_n b]; exact h.2.2 x a b c
    · rw [bq_sr_n (by decide)]; exact hw
    · rw [bq_sr_n (by decide)]; exact hd
  have so : ∀ (J : bq_IR), gs_on1 I J → J 75 16 = I 77 4 → J 75 17 = I 77 2 → ¬ J 77 1 = 0 ∧ J 75 11 = nI q ∧ J 77 = I 77 ∧ J 83 = I 83 := by
    intro J h _ _
    refine ⟨?_, ?_, h.2.2 77 (by decide) (by decide) (by decide), h.2.2 83 (by decide) (by decide) (by decide)⟩
    · rw [h.2.2 77 (by decide) (by decide) (by decide)]; exact hA
    · rw [h.2.1 11 (by decide) (by decide) (by decide)]; exact hq
  have loop : ∀ b, b ≤ m → ∀ (f : Int32) (J : bq_IR), gs_sf (I 83) q (I 77) (gs_beg (I 77) m (I 79)) b f → gs_on1 I J → J 75 16 = I 77 4 → J 75 17 = I 77 2 → A 0 0 25 [some (.ref (z + 75)), some (.int f), some (.int (nI b))] [] 85 (bq_Rf z) J L := by
    refine bq_down m ?_
    intro b hb ih f J hf hJ hw hd
    obtain ⟨a1, a2, a3, a4⟩ := so J hJ hw hd
    have am : J 77 5 = nI m := by rw [a3]; exact hm5
    rcases Nat.lt_or_ge b m with hb8 | hb8
    · have ih := ih hb8
      have eB : gs_beg (J 77) m (J 79) = gs_beg (I 77) m (I 79) := by rw [a3]; exact gs_beg_same hJ.1.2
      obtain ⟨o1, o2, o3⟩ := on J hJ hw hd (gs_beg (I 77) m (I 79)) (fun j hj => gs_beg_hi hm hj)
      refine bq_iload_n (q := 26) G rfl dX9_splitFirst_25 rfl ?_
      refine bq_aload_n (q := 27) G rfl dX9_splitFirst_26 rfl ?_
      refine bq_getr (q := 30) G dX9_splitFirst_27 rfl fl_X9_13 (by first | assumption | exact ⟨Nat.le_of_ble_eq_true rfl, rfl⟩) (fun _ _ _ => rfl) (rf_75_3 z) ?_
      refine bq_iconst (q := 31) (v := 5) G (by decide) dX9_splitFirst_30 rfl ?_
      refine bq_iald (q := 32) (b := 5) G dX9_splitFirst_31 rfl (by first | assumption | exact ⟨Nat.le_of_ble_eq_true rfl, rfl⟩) rfl (by first | with_reducible assumption | omega | decide) (by decide) ?_
      refine bq_icmp_ge_f (q := 35) (t := 76) G dX9_splitFirst_32 rfl (by decide) (by rw [am]; exact nI_ge (a := b) (b := m) hb8 (by omega)) ?_
      refine bq_aload_n (q := 36) G rfl dX9_splitFirst_35 rfl ?_
      refine bq_callv (q := 39) G dX9_splitFirst_36 rfl cl_X9_92 (c_X9_begins a1 am hm) rfl (by first | assumption | exact ⟨Nat.le_of_ble_eq_true rfl, rfl⟩) rfl ⟨Nat.le_of_ble_eq_true rfl, Nat.le_of_ble_eq_true rfl⟩ (Nat.le_of_ble_eq_true rfl) ⟨Nat.le_of_ble_eq_true rfl, Nat.le_of_ble_eq_true rfl⟩ rfl ?_
      rw [eB]
      have e9 : bq_sr J 79 (gs_beg (I 77) m (I 79)) 79 = gs_beg (I 77) m (I 79) := bq_sr_s _ _ _
      generalize bq_sr J 79 (gs_beg (I 77) m (I 79)) = K at o1 o2 o3 e9 ⊢
      have no : ¬ ((gs_beg (I 77) m (I 79) (3 + b) = 1 ∨ ¬ gs_fk (gs_beg (I 77) m (I 79)) 8 0 = -9) ∧ gs_so (I 83) q (I 77 4) (I 77 2) (I 77 1) (gs_sp b (gs_beg (I 77) m (I 79))) 41) → ∀ K : bq_IR, gs_on1 I K → K 75 16 = I 77 4 → K 75 17 = I 77 2 → A 0 0 70 [some (.ref (z + 75)), some (.int f), some (.int (nI b))] [] 85 (bq_Rf z) K L := by
        intro hn K k1 k2 k3
        refine bq_iinc (q := 73) (ls' := [_, _, _]) G dX9_splitFirst_70 rfl rfl (by first | exact nI_1 _ | exact pk_m1 _ | rfl) (by decide) rfl rfl ?_
        refine bq_goto (q := 25) G dX9_splitFirst_73 (by decide) ?_
        exact ih f K ⟨f, hf, Or.inr ⟨hn, rfl⟩⟩ k1 k2 k3
      refine bq_aload_n (q := 40) G rfl dX9_splitFirst_39 rfl ?_
      refine bq_iload_n (q := 41) G rfl dX9_splitFirst_40 rfl ?_
      refine bq_callv (q := 44) G dX9_splitFirst_41 rfl cl_X9_132 (c_X9_canSplit (k := b) (by omega)) rfl (by first | assumption | exact ⟨Nat.le_of_ble_eq_true rfl, rfl⟩) rfl ⟨Nat.le_of_ble_eq_true rfl, Nat.le_of_ble_eq_true rfl⟩ (Nat.le_of_ble_eq_true rfl) ⟨Nat.le_of_ble_eq_true rfl, Nat.le_of_ble_eq_true rfl⟩ rfl ?_
      first | refine bq_ifb_eq (t := 70) (q := 47) G dX9_splitFirst_44 (by decide) rfl (fun c44 => ?_) (fun c44 => ?_) | refine bq_if_eq (t := 70) (q := 47) G dX9_splitFirst_44 (by decide) rfl (fun c44 => ?_) (fun c44 => ?_)
      · rw [e9] at c44
        exact no (fun h => c44 h.1) K o1 o2 o3
      · rw [e9] at c44
        obtain ⟨p1, p2, p3⟩ := on K o1 o2 o3 (gs_sp b (gs_beg (I 77) m (I 79))) (fun j hj => by rw [gs_sp_hi (by omega) hj]; exact gs_beg_hi hm hj)
        refine bq_aload_n (q := 48) G rfl dX9_splitFirst_47 rfl ?_
        refine bq_iload_n (q := 49) G rfl dX9_splitFirst_48 rfl ?_
        refine bq_callv (q := 52) G dX9_splitFirst_49 rfl cl_X9_135 (c_X9_splitsNow (k := b) (by omega) (fun h1 => by rw [e9] at h1 ⊢; exact c44.elim (fun h2 => absurd h2 h1) id)) rfl (by first | assumption | exact ⟨Nat.le_of_ble_eq_true rfl, rfl⟩) rfl ⟨Nat.le_of_ble_eq_true rfl, Nat.le_of_ble_eq_true rfl⟩ (Nat.le_of_ble_eq_true rfl) ⟨Nat.le_of_ble_eq_true rfl, Nat.le_of_ble_eq_true rfl⟩ rfl ?_
        refine bq_pop (q := 53) G rfl dX9_splitFirst_52 rfl ?_
        rw [e9]
        have e10 : bq_sr K 79 (gs_sp b (gs_beg (I 77) m (I 79))) 79 = gs_sp b (gs_beg (I 77) m (I 79)) := bq_sr_s _ _ _
        generalize bq_sr K 79 (gs_sp b (gs_beg (I 77) m (I 79))) = K2 at p1 p2 p3 e10 ⊢
        obtain ⟨b1, b2, b3, b4⟩ := so K2 p1 p2 p3
        refine bq_iload_n (q := 54) G rfl dX9_splitFirst_53 rfl ?_
        refine bq_aload_n (q := 55) G rfl dX9_splitFirst_54 rfl ?_
        refine bq_callvI (q := 58) G dX9_splitFirst_55 rfl cl_X9_160 (c_X9_isSo b1 b2 hq4) rfl (by first | assumption | exact ⟨Nat.le_of_ble_eq_true rfl, rfl⟩) rfl ⟨Nat.le_of_ble_eq_true rfl, Nat.le_of_ble_eq_true rfl⟩ (Nat.le_of_ble_eq_true rfl) ⟨Nat.le_of_ble_eq_true rfl, Nat.le_of_ble_eq_true rfl⟩ (fun r55 I55 L55 h55 => ?_)
        obtain ⟨s1, s2, rfl⟩ := h55
        rw [p2, p3, b3, b4, e10] at s1
        rw [p2, p3] at s2
        have k1 := p1.mI s2
        have k2 : I55 75 16 = I 77 4 := s2.2.1.1
        have k3 : I55 75 17 = I 77 2 := s2.2.1.2.1
        rcases s1 with ⟨rfl, s1⟩ | ⟨rfl, s1⟩
        · refine bq_if_eq_f (q := 61) (t := 67) G dX9_splitFirst_58 rfl (by decide) (by decide) ?_
          refine bq_iconst (q := 62) (v := 1) G (by decide) dX9_splitFirst_61 rfl ?_
          refine bq_iload_n (q := 63) G rfl dX9_splitFirst_62 rfl ?_
          refine bq_ishl (q := 64) G dX9_splitFirst_63 rfl ?_
          refine bq_goto (q := 68) G dX9_splitFirst_64 (by decide) ?_
          refine bq_ior (q := 69) G dX9_splitFirst_68 rfl ?_
          refine bq_istore_n (q := 70) (ls' := [_, _, _]) G dX9_splitFirst_69 rfl (by decide) rfl rfl ?_
          refine bq_iinc (q := 73) (ls' := [_, _, _]) G dX9_splitFirst_70 rfl rfl (by first | exact nI_1 _ | exact pk_m1 _ | rfl) (by decide) rfl rfl ?_
          refine bq_goto (q := 25) G dX9_splitFirst_73 (by decide) ?_
          exact ih _ _ ⟨f, hf, Or.inl ⟨c44, s1, rfl⟩⟩ k1 k2 k3
        · refine bq_if_eq_t (t := 67) G dX9_splitFirst_58 (by decide) rfl ?_
          refine bq_iconst (q := 68) (v := 0) G (by decide) dX9_splitFirst_67 rfl ?_
          refine bq_ior (q := 69) G dX9_splitFirst_68 rfl ?_
          refine bq_istore_n (q := 70) (ls' := [_, _, _]) G dX9_splitFirst_69 rfl (by decide) rfl rfl ?_
          refine bq_iinc (q := 73) (ls' := [_, _, _]) G dX9_splitFirst_70 rfl rfl (by first | exact nI_1 _ | exact pk_m1 _ | rfl) (by decide) rfl rfl ?_
          refine bq_goto (q := 25) G dX9_splitFirst_73 (by decide) ?_
          rw [gs_or0]
          exact ih _ _ ⟨f, hf, Or.inr ⟨fun h => s1 h.2, rfl⟩⟩ k1 k2 k3
    · have hb9 : b = m := by omega
      subst hb9
      refine bq_iload_n (q := 26) G rfl dX9_splitFirst_25 rfl ?_
      refine bq_aload_n (q := 27) G rfl dX9_splitFirst_26 rfl ?_
      refine bq_getr (q := 30) G dX9_splitFirst_27 rfl fl_X9_13 (by first | assumption | exact ⟨Nat.le_of_ble_eq_true rfl, rfl⟩) (fun _ _ _ => rfl) (rf_75_3 z) ?_
      refine bq_iconst (q := 31) (v := 5) G (by decide) dX9_splitFirst_30 rfl ?_
      refine bq_iald (q := 32) (b := 5) G dX9_splitFirst_31 rfl (by first | assumption | exact ⟨Nat.le_of_ble_eq_true rfl, rfl⟩) rfl (by first | with_reducible assumption | omega | decide) (by decide) ?_
      refine bq_icmp_ge_t (t := 76) G dX9_splitFirst_32 (by decide) (by rw [am]; exact nI_le (a := b) (b := b) (by omega) (by omega)) ?_
      refine bq_aload_n (q := 77) G rfl dX9_splitFirst_76 rfl ?_
      refine bq_callv (q := 80) G dX9_splitFirst_77 rfl cl_X9_144 (c_X9_lets) rfl (by first | assumption | exact ⟨Nat.le_of_ble_eq_true rfl, rfl⟩) rfl ⟨Nat.le_of_ble_eq_true rfl, Nat.le_of_ble_eq_true rfl⟩ (Nat.le_of_ble_eq_true rfl) ⟨Nat.le_of_ble_eq_true rfl, Nat.le_of_ble_eq_true rfl⟩ rfl ?_
      refine bq_iload_n (q := 81) G rfl dX9_splitFirst_80 rfl ?_
      exact hret _ _ _ _ _ dX9_splitFirst_81 ⟨hf, hJ.lets, rfl⟩
  obtain ⟨a1, a2, a3, a4⟩ := so (gs_H I) (gs_on1.H I) (gs_Hw I) (gs_Hd I)
  have am : gs_H I 77 5 = nI m := by rw [a3]; exact hm5
  obtain ⟨o1, o2, o3⟩ := on (gs_H I) (gs_on1.H I) (gs_Hw I) (gs_Hd I) (gs_beg (I 77) m (I 79)) (fun j hj => gs_beg_hi hm hj)
  refine bq_aload_n (q := 1) G rfl dX9_splitFirst_0 rfl ?_
  refine bq_callv (q := 4) G dX9_splitFirst_1 rfl cl_X9_141 (c_holds) rfl (by first | assumption | exact ⟨Nat.le_of_ble_eq_true rfl, rfl⟩) rfl ⟨Nat.le_of_ble_eq_true rfl, Nat.le_of_ble_eq_true rfl⟩ (Nat.le_of_ble_eq_true rfl) ⟨Nat.le_of_ble_eq_true rfl, Nat.le_of_ble_eq_true rfl⟩ rfl ?_
  refine bq_aload_n (q := 5) G rfl dX9_splitFirst_4 rfl ?_
  refine bq_callv (q := 8) G dX9_splitFirst_5 rfl cl_X9_92 (c_X9_begins a1 am hm) rfl (by first | assumption | exact ⟨Nat.le_of_ble_eq_true rfl, rfl⟩) rfl ⟨Nat.le_of_ble_eq_true rfl, Nat.le_of_ble_eq_true rfl⟩ (Nat.le_of_ble_eq_true rfl) ⟨Nat.le_of_ble_eq_true rfl, Nat.le_of_ble_eq_true rfl⟩ rfl ?_
  rw [gs_H77, gs_H79]
  have e9 : bq_sr (gs_H I) 79 (gs_beg (I 77) m (I 79)) 79 = gs_beg (I 77) m (I 79) := bq_sr_s _ _ _
  generalize bq_sr (gs_H I) 79 (gs_beg (I 77) m (I 79)) = K at o1 o2 o3 e9 ⊢
  obtain ⟨b1, b2, b3, b4⟩ := so K o1 o2 o3
  refine bq_aload_n (q := 9) G rfl dX9_splitFirst_8 rfl ?_
  refine bq_callvI (q := 12) G dX9_splitFirst_9 rfl cl_X9_160 (c_X9_isSo b1 b2 hq4) rfl (by first | assumption | exact ⟨Nat.le_of_ble_eq_true rfl, rfl⟩) rfl ⟨Nat.le_of_ble_eq_true rfl, Nat.le_of_ble_eq_true rfl⟩ (Nat.le_of_ble_eq_true rfl) ⟨Nat.le_of_ble_eq_true rfl, Nat.le_of_ble_eq_true rfl⟩ (fun r9 I9 L9 h9 => ?_)
  obtain ⟨s1, s2, rfl⟩ := h9
  rw [o2, o3, b3, b4, e9] at s1
  rw [o2, o3] at s2
  rcases s1 with ⟨rfl, s1⟩ | ⟨rfl, s1⟩
  · refine bq_if_eq_f (q := 15) (t := 21) G dX9_splitFirst_12 rfl (by decide) (by decide) ?_
    refine bq_sipush (q := 18) (v := 256) G (by decide) dX9_splitFirst_15 rfl ?_
    refine bq_goto (q := 22) G dX9_splitFirst_18 (by decide) ?_
    refine bq_istore_n (q := 23) (ls' := [_, _, _]) G dX9_splitFirst_22 rfl (by decide) rfl rfl ?_
    refine bq_iconst (q := 24) (v := 0) G (by decide) dX9_splitFirst_23 rfl ?_
    refine bq_istore_n (q := 25) (ls' := [_, _, _]) G dX9_splitFirst_24 rfl (by decide) rfl rfl ?_
    exact loop 0 (by omega) 256 I9 (Or.inl ⟨s1, rfl⟩) (o1.mI s2) s2.2.1.1 s2.2.1.2.1
  · refine bq_if_eq_t (t := 21) G dX9_splitFirst_12 (by decide) rfl ?_
    refine bq_iconst (q := 22) (v := 0) G (by decide) dX9_splitFirst_21 rfl ?_
    refine bq_istore_n (q := 23) (ls' := [_, _, _]) G dX9_splitFirst_22 rfl (by decide) rfl rfl ?_
    refine bq_iconst (q := 24) (v := 0) G (by decide) dX9_splitFirst_23 rfl ?_
    refine bq_istore_n (q := 25) (ls' := [_, _, _]) G dX9_splitFirst_24 rfl (by decide) rfl rfl ?_
    exact loop 0 (by omega) 0 I9 (Or.inr ⟨s1, rfl⟩) (o1.mI s2) s2.2.1.1 s2.2.1.2.1
