theorem gs_F.like2 {S : Nat → Int32} {f : Nat} {w v : Int32} (h : gs_F S f w) {k o : Nat} (hk : k < 8) (ho : o < 8) (hv : S (f + k) = v) : gs_F (upd S (f + o) v) f ((w &&& ((1 <<< (nI o &&& 31)) ^^^ (-1))) ||| ((w >>> (nI k &&& 31) &&& 1) <<< (nI o &&& 31))) := hv ▸ h.like hk ho
def gs_s1 (k : Nat) (S : Nat → Int32) : Nat → Int32 := upd (upd S (3 + k) (S (3 + k) / 2)) (11 + k) (if 40 < 2 * S (11 + k) then 40 else 2 * S (11 + k))
def gs_c7 (o k : Nat) : Nat → (Nat → Int32) → Nat → Int32
  | 0, S => S
  | q + 1, S => upd (gs_c7 o k q S) (3 + 8 * q + o) (gs_c7 o k q S (3 + 8 * q + k))
def gs_o (S : Nat → Int32) : Nat := (gs_fk S 8 0).toNatClampNeg
def gs_sp (k : Nat) (S : Nat → Int32) : Nat → Int32 := if S (3 + k) = 1 then upd S (51 + k) 0 else gs_c7 (gs_o S) k 7 (gs_s1 k S)
def gs_spr (k : Nat) (S : Nat → Int32) : Int32 := if S (3 + k) = 1 then -9 else gs_fk S 8 0
theorem gs_c7_out {o k : Nat} (ho : o < 8) {S : Nat → Int32} : ∀ (q j : Nat), (∀ i, i < q → j ≠ 3 + 8 * i + o) → gs_c7 o k q S j = S j
  | 0, j, _ => rfl
  | q + 1, j, h => by
    unfold gs_c7
    rw [pk_un (h q (by omega))]
    exact gs_c7_out ho q j (fun i hi => h i (by omega))
theorem gs_c7_in {o k : Nat} (ho : o < 8) (hk : k < 8) (hok : o ≠ k) {S : Nat → Int32} : ∀ (q i : Nat), i < q → gs_c7 o k q S (3 + 8 * i + o) = S (3 + 8 * i + k)
  | 0, i, h => by omega
  | q + 1, i, h => by
    unfold gs_c7
    by_cases e : i = q
    · subst e
      rw [pk_us]
      exact gs_c7_out ho i _ (fun i' hi' => by omega)
    · rw [pk_un (by omega)]
      exact gs_c7_in ho hk hok q i (by omega)
theorem gs_split_row {S : Nat → Int32} {o k : Nat} (ho : o < 8) (hk : k < 8) (hok : o ≠ k) (h51 : S (51 + k) = 1) (j : Nat) : gs_c7 o k 7 S j = upd (upd (upd (upd (upd (upd (upd S (3 + o) (S (3 + k))) (11 + o) (S (11 + k))) (19 + o) (S (19 + k))) (51 + o) 1) (27 + o) (S (27 + k))) (35 + o) (S (35 + k))) (43 + o) (S (43 + k)) j := by
  by_cases h0 : j = 3 + o
  · subst h0
    rw [pk_un (by omega), pk_un (by omega), pk_un (by omega), pk_un (by omega), pk_un (by omega), pk_un (by omega), pk_us]
    exact gs_c7_in ho hk hok 7 0 (by omega)
  by_cases h1 : j = 11 + o
  · subst h1
    rw [pk_un (by omega), pk_un (by omega), pk_un (by omega), pk_un (by omega), pk_un (by omega), pk_us]
    exact gs_c7_in ho hk hok 7 1 (by omega)
  by_cases h2 : j = 19 + o
  · subst h2
    rw [pk_un (by omega), pk_un (by omega), pk_un (by omega), pk_un (by omega), pk_us]
    exact gs_c7_in ho hk hok 7 2 (by omega)
  by_cases h6 : j = 51 + o
  · subst h6
    rw [pk_un (by omega), pk_un (by omega), pk_un (by omega), pk_us]
    exact (gs_c7_in ho hk hok 7 6 (by omega)).trans h51
  by_cases h3 : j = 27 + o
  · subst h3
    rw [pk_un (by omega), pk_un (by omega), pk_us]
    exact gs_c7_in ho hk hok 7 3 (by omega)
  by_cases h4 : j = 35 + o
  · subst h4
    rw [pk_un (by omega), pk_us]
    exact gs_c7_in ho hk hok 7 4 (by omega)
  by_cases h5 : j = 43 + o
  · subst h5
    rw [pk_us]
    exact gs_c7_in ho hk hok 7 5 (by omega)
  rw [pk_un h5, pk_un h4, pk_un h3, pk_un h6, pk_un h2, pk_un h1, pk_un h0]
  exact gs_c7_out ho 7 j (fun i hi => by omega)
theorem gs_min40 (y : Int32) : (if y < 40 then y else 40) = if 40 < y then 40 else y := by
  by_cases h : y < 40
  · rw [if_pos h, if_neg (fun h2 => by simp only [Int32.lt_iff_toInt_lt] at *; omega)]
  · rw [if_neg h]
    split
    · rfl
    · rename_i h2
      exact Int32.le_antisymm (Int32.not_lt.mp h) (Int32.not_lt.mp h2)
set_option maxHeartbeats 1000000 in
set_option maxRecDepth 100000 in
theorem c_X5_split {z n : Nat} {R : bq_RR} {I : bq_IR} {L : bq_LR} {a : Nat} {k : Nat} {S : Nat → Int32} (hM : bq_Mo z n R a) (hC : bq_MC I a S) (hk : k < 8) (hcan : S (51 + k) = 1 ∧ (S (3 + k) ≤ 1 ∨ 0 ≤ gs_fk S 8 0)) (hpos : 1 ≤ S (3 + k)) : bq_FI MX5_split z [.ref (z + a), .int (nI k)] n R I L (fun r J L' => r = gs_spr k S ∧ (bq_MC J a (gs_sp k S) ∧ J a 0 = I a 0 ∧ J a 2 = I a 2 ∧ J a 10 = I a 10 ∧ J a 11 = I a 11) ∧ (∀ x, (x < a ∨ a + 3 < x) → J x = I x) ∧ L' = L) := by
  refine bq_FIof [some (.ref (z + a)), some (.int (nI k)), none] rfl (Nat.le_of_ble_eq_true rfl) (by decide) rfl (fun _ _ _ _ => rfl) ?_
  intro A G hret
  have G : bq_Cx cX5_split RX5 3 z (bq_rm MX5_split 0 0) "split" A := G
  obtain ⟨hM0, hM1, hM2, hM3, hR3, hR4, hR5⟩ := id hM
  have es := (hC.2.1 k hk).1
  refine bq_aload_n (q := 1) G rfl dX5_split_0 rfl ?_
  refine bq_iload_n (q := 2) G rfl dX5_split_1 rfl ?_
  refine bq_callv (q := 5) G dX5_split_2 rfl cl_X5_78 (c_X5_canSplit hM hC hk) rfl (by first | assumption | exact ⟨Nat.le_of_ble_eq_true rfl, rfl⟩) rfl ⟨Nat.le_of_ble_eq_true rfl, Nat.le_of_ble_eq_true rfl⟩ (Nat.le_of_ble_eq_true rfl) ⟨Nat.le_of_ble_eq_true rfl, Nat.le_of_ble_eq_true rfl⟩ rfl ?_
  first | refine bq_ifb_ne (t := 11) (q := 8) G dX5_split_5 (by decide) rfl (fun c5 => ?_) (fun c5 => ?_) | refine bq_if_ne (t := 11) (q := 8) G dX5_split_5 (by decide) rfl (fun c5 => ?_) (fun c5 => ?_)
  · refine bq_aload_n (q := 12) G rfl dX5_split_11 rfl ?_
    refine bq_getr (q := 15) G dX5_split_12 rfl fl_X5_9 (by first | assumption | exact ⟨Nat.le_of_ble_eq_true rfl, rfl⟩) (fun _ _ _ => rfl) (by first | assumption | rfl) ?_
    refine bq_iload_n (q := 16) G rfl dX5_split_15 rfl ?_
    refine bq_iald (q := 17) G dX5_split_16 rfl (by first | assumption | exact ⟨Nat.le_of_ble_eq_true rfl, rfl⟩) (by first | with_reducible assumption | with_reducible exact rfl | exact bq_ixa rfl (by with_reducible assumption) | exact rfl | exact bq_ixa rfl rfl | exact bq_ixa (by with_reducible assumption) rfl | exact bq_ixa rfl (bq_ixa (by first | rfl | with_reducible assumption) (by first | rfl | with_reducible assumption))) (by first | with_reducible assumption | omega | decide) (by decide) ?_
    refine bq_iconst (q := 18) (v := 1) G (by decide) dX5_split_17 rfl ?_
    refine bq_icmp_gt (t := 38) (q := 21) G dX5_split_18 (by decide) rfl (fun c18 => ?_) (fun c18 => ?_)
    · rw [es] at c18
      have hne : ¬ S (3 + k) = 1 := fun h => by rw [h] at c18; exact absurd c18 (by decide)
      have hfr : 0 ≤ gs_fk S 8 0 := hcan.2.elim (fun h => absurd h (Int32.not_le.mpr c18)) id
      obtain ⟨o, ho, hfo, h51o⟩ : ∃ o, o < 8 ∧ gs_fk S 8 0 = nI o ∧ S (51 + o) = 0 := by
        rcases gs_fk_or S 8 0 with h | ⟨o, -, h2, h3, h4⟩
        · rw [h] at hfr; exact absurd hfr (by decide)
        · exact ⟨o, by omega, h3, h4⟩
      have hok : o ≠ k := fun e => by rw [e, hcan.1] at h51o; exact absurd h51o (by decide)
      have hoS : gs_o S = o := by unfold gs_o; rw [hfo]; exact nI_clamp (by omega)
      refine bq_aload_n (q := 39) G rfl dX5_split_38 rfl ?_
      refine bq_callv (q := 42) G dX5_split_39 rfl cl_X5_74 (c_X5_firstFree hM0 hC.2.2.2.2.2) rfl (by first | assumption | exact ⟨Nat.le_of_ble_eq_true rfl, rfl⟩) rfl ⟨Nat.le_of_ble_eq_true rfl, Nat.le_of_ble_eq_true rfl⟩ (Nat.le_of_ble_eq_true rfl) ⟨Nat.le_of_ble_eq_true rfl, Nat.le_of_ble_eq_true rfl⟩ rfl ?_
      refine bq_top (congrArg Value.int (hfo)) ?_
      refine bq_istore_n (q := 43) (ls' := [_, _, _]) G dX5_split_42 rfl (by decide) rfl rfl ?_
      refine bq_aload_n (q := 44) G rfl dX5_split_43 rfl ?_
      refine bq_getr (q := 47) G dX5_split_44 rfl fl_X5_9 (by first | assumption | exact ⟨Nat.le_of_ble_eq_true rfl, rfl⟩) (fun _ _ _ => rfl) (by first | assumption | rfl) ?_
      refine bq_iload_n (q := 48) G rfl dX5_split_47 rfl ?_
      refine bq_aload_n (q := 49) G rfl dX5_split_48 rfl ?_
      refine bq_getr (q := 52) G dX5_split_49 rfl fl_X5_9 (by first | assumption | exact ⟨Nat.le_of_ble_eq_true rfl, rfl⟩) (fun _ _ _ => rfl) (by first | assumption | rfl) ?_
      refine bq_iload_n (q := 53) G rfl dX5_split_52 rfl ?_
      refine bq_iald (q := 54) G dX5_split_53 rfl (by first | assumption | exact ⟨Nat.le_of_ble_eq_true rfl, rfl⟩) (by first | with_reducible assumption | with_reducible exact rfl | exact bq_ixa rfl (by with_reducible assumption) | exact rfl | exact bq_ixa rfl rfl | exact bq_ixa (by with_reducible assumption) rfl | exact bq_ixa rfl (bq_ixa (by first | rfl | with_reducible assumption) (by first | rfl | with_reducible assumption))) (by first | with_reducible assumption | omega | decide) (by decide) ?_
      refine bq_iconst (q := 55) (v := 2) G (by decide) dX5_split_54 rfl ?_
      refine bq_idiv (q := 56) G (by decide) dX5_split_55 rfl ?_
      refine bq_iast (q := 57) G dX5_split_56 rfl (by first | assumption | exact ⟨Nat.le_of_ble_eq_true rfl, rfl⟩) (by first | with_reducible assumption | with_reducible exact rfl | exact bq_ixa rfl (by with_reducible assumption) | exact rfl | exact bq_ixa rfl rfl | exact bq_ixa (by with_reducible assumption) rfl | exact bq_ixa rfl (bq_ixa (by first | rfl | with_reducible assumption) (by first | rfl | with_reducible assumption))) (by first | with_reducible assumption | omega | decide) (by decide) ?_
      refine bq_aload_n (q := 58) G rfl dX5_split_57 rfl ?_
      refine bq_getr (q := 61) G dX5_split_58 rfl fl_X5_15 (by first | assumption | exact ⟨Nat.le_of_ble_eq_true rfl, rfl⟩) (fun _ _ _ => rfl) (by first | assumption | rfl) ?_
      refine bq_iload_n (q := 62) G rfl dX5_split_61 rfl ?_
      refine bq_bipush (q := 64) (v := 40) G (by decide) dX5_split_62 rfl ?_
      refine bq_iconst (q := 65) (v := 2) G (by decide) dX5_split_64 rfl ?_
      refine bq_aload_n (q := 66) G rfl dX5_split_65 rfl ?_
      refine bq_getr (q := 69) G dX5_split_66 rfl fl_X5_15 (by first | assumption | exact ⟨Nat.le_of_ble_eq_true rfl, rfl⟩) (fun _ _ _ => rfl) (by first | assumption | rfl) ?_
      refine bq_iload_n (q := 70) G rfl dX5_split_69 rfl ?_
      refine bq_iald (q := 71) G dX5_split_70 rfl (by first | assumption | exact ⟨Nat.le_of_ble_eq_true rfl, rfl⟩) (by first | with_reducible assumption | with_reducible exact rfl | exact bq_ixa rfl (by with_reducible assumption) | exact rfl | exact bq_ixa rfl rfl | exact bq_ixa (by with_reducible assumption) rfl | exact bq_ixa rfl (bq_ixa (by first | rfl | with_reducible assumption) (by first | rfl | with_reducible assumption))) (by first | with_reducible assumption | omega | decide) (by decide) ?_
      refine bq_imul (q := 72) G dX5_split_71 rfl ?_
      refine bq_calls (q := 75) G dX5_split_72 rfl cl_X5_58 (c_J9_min_7cf53) rfl rfl ⟨Nat.le_of_ble_eq_true rfl, Nat.le_of_ble_eq_true rfl⟩ (Nat.le_of_ble_eq_true rfl) ⟨Nat.le_of_ble_eq_true rfl, Nat.le_of_ble_eq_true rfl⟩ rfl ?_
      refine bq_iast (q := 76) G dX5_split_75 rfl (by first | assumption | exact ⟨Nat.le_of_ble_eq_true rfl, rfl⟩) (by first | with_reducible assumption | with_reducible exact rfl | exact bq_ixa rfl (by with_reducible assumption) | exact rfl | exact bq_ixa rfl rfl | exact bq_ixa (by with_reducible assumption) rfl | exact bq_ixa rfl (bq_ixa (by first | rfl | with_reducible assumption) (by first | rfl | with_reducible assumption))) (by first | with_reducible assumption | omega | decide) (by decide) ?_
      refine bq_aload_n (q := 77) G rfl dX5_split_76 rfl ?_
      refine bq_iload_n (q := 78) G rfl dX5_split_77 rfl ?_
      refine bq_aload_n (q := 79) G rfl dX5_split_78 rfl ?_
      refine bq_getr (q := 82) G dX5_split_79 rfl fl_X5_9 (by first | assumption | exact ⟨Nat.le_of_ble_eq_true rfl, rfl⟩) (fun _ _ _ => rfl) (by first | assumption | rfl) ?_
      refine bq_iload_n (q := 83) G rfl dX5_split_82 rfl ?_
      refine bq_iald (q := 84) G dX5_split_83 rfl (by first | assumption | exact ⟨Nat.le_of_ble_eq_true rfl, rfl⟩) (by first | with_reducible assumption | with_reducible exact rfl | exact bq_ixa rfl (by with_reducible assumption) | exact rfl | exact bq_ixa rfl rfl | exact bq_ixa (by with_reducible assumption) rfl | exact bq_ixa rfl (bq_ixa (by first | rfl | with_reducible assumption) (by first | rfl | with_reducible assumption))) (by first | with_reducible assumption | omega | decide) (by decide) ?_
      refine bq_aload_n (q := 85) G rfl dX5_split_84 rfl ?_
      refine bq_getr (q := 88) G dX5_split_85 rfl fl_X5_15 (by first | assumption | exact ⟨Nat.le_of_ble_eq_true rfl, rfl⟩) (fun _ _ _ => rfl) (by first | assumption | rfl) ?_
      refine bq_iload_n (q := 89) G rfl dX5_split_88 rfl ?_
      refine bq_iald (q := 90) G dX5_split_89 rfl (by first | assumption | exact ⟨Nat.le_of_ble_eq_true rfl, rfl⟩) (by first | with_reducible assumption | with_reducible exact rfl | exact bq_ixa rfl (by with_reducible assumption) | exact rfl | exact bq_ixa rfl rfl | exact bq_ixa (by with_reducible assumption) rfl | exact bq_ixa rfl (bq_ixa (by first | rfl | with_reducible assumption) (by first | rfl | with_reducible assumption))) (by first | with_reducible assumption | omega | decide) (by decide) ?_
      refine bq_aload_n (q := 91) G rfl dX5_split_90 rfl ?_
      refine bq_getr (q := 94) G dX5_split_91 rfl fl_X5_18 (by first | assumption | exact ⟨Nat.le_of_ble_eq_true rfl, rfl⟩) (fun _ _ _ => rfl) (by first | assumption | rfl) ?_
      refine bq_iload_n (q := 95) G rfl dX5_split_94 rfl ?_
      refine bq_iald (q := 96) G dX5_split_95 rfl (by first | assumption | exact ⟨Nat.le_of_ble_eq_true rfl, rfl⟩) (by first | with_reducible assumption | with_reducible exact rfl | exact bq_ixa rfl (by with_reducible assumption) | exact rfl | exact bq_ixa rfl rfl | exact bq_ixa (by with_reducible assumption) rfl | exact bq_ixa rfl (bq_ixa (by first | rfl | with_reducible assumption) (by first | rfl | with_reducible assumption))) (by first | with_reducible assumption | omega | decide) (by decide) ?_
      have m1 := hC.size hk (I (a + 1) k / 2)
      have m2 := m1.pace hk (if 2 * bq_sr I (a + 1) (upd (I (a + 1)) k (I (a + 1) k / 2)) (a + 2) k < 40 then 2 * bq_sr I (a + 1) (upd (I (a + 1)) k (I (a + 1) k / 2)) (a + 2) k else 40)
      obtain ⟨u1, u2, u3⟩ := m2.2.1 k hk
      have eS : upd (upd S (3 + k) (I (a + 1) k / 2)) (11 + k) (if 2 * bq_sr I (a + 1) (upd (I (a + 1)) k (I (a + 1) k / 2)) (a + 2) k < 40 then 2 * bq_sr I (a + 1) (upd (I (a + 1)) k (I (a + 1) k / 2)) (a + 2) k else 40) = gs_s1 k S := by
        unfold gs_s1
        rw [(m1.2.1 k hk).2.1, pk_un (by omega), gs_min40, es]
      rw [eS] at m2 u1 u2 u3
      refine bq_callvV (q := 99) G dX5_split_96 rfl cl_X5_81 (c_X5_place hM m2 ho) rfl (by first | assumption | exact ⟨Nat.le_of_ble_eq_true rfl, rfl⟩) rfl ⟨Nat.le_of_ble_eq_true rfl, Nat.le_of_ble_eq_true rfl⟩ (Nat.le_of_ble_eq_true rfl) ⟨Nat.le_of_ble_eq_true rfl, Nat.le_of_ble_eq_true rfl⟩ (fun I96 L96 h96 => ?_)
      obtain ⟨⟨mc, e0, e2, e10, e11⟩, fr, rfl⟩ := h96
      rw [u1, u2, u3] at mc
      have m5 := mc.out (mc.2.2.1.like2 (v := gs_s1 k S (27 + k)) hk ho (by rw [pk_un (by omega), pk_un (by omega), pk_un (by omega), pk_un (by omega)])) (fun j hj => pk_un (by omega))
      have m6 := m5.bored (m5.2.2.2.1.like2 (v := gs_s1 k S (35 + k)) hk ho (by rw [pk_un (by omega), pk_un (by omega), pk_un (by omega), pk_un (by omega), pk_un (by omega)])) (fun j hj => pk_un (by omega))
      have m7 := m6.wet (m6.2.2.2.2.1.like2 (v := gs_s1 k S (43 + k)) hk ho (by rw [pk_un (by omega), pk_un (by omega), pk_un (by omega), pk_un (by omega), pk_un (by omega), pk_un (by omega)])) (fun j hj => pk_un (by omega))
      refine bq_aload_n (q := 100) G rfl dX5_split_99 rfl ?_
      refine bq_aload_n (q := 101) G rfl dX5_split_100 rfl ?_
      refine bq_geti (q := 104) G dX5_split_101 rfl fl_X5_31 (by first | assumption | exact ⟨Nat.le_of_ble_eq_true rfl, rfl⟩) rfl ?_
      refine bq_iload_n (q := 105) G rfl dX5_split_104 rfl ?_
      refine bq_iload_n (q := 106) G rfl dX5_split_105 rfl ?_
      refine bq_calls (q := 109) G dX5_split_106 rfl cl_X5_85 (c_X5_alike) rfl rfl ⟨Nat.le_of_ble_eq_true rfl, Nat.le_of_ble_eq_true rfl⟩ (Nat.le_of_ble_eq_true rfl) ⟨Nat.le_of_ble_eq_true rfl, Nat.le_of_ble_eq_true rfl⟩ rfl ?_
      refine bq_puti (q := 112) G dX5_split_109 rfl fl_X5_31 (by first | assumption | exact ⟨Nat.le_of_ble_eq_true rfl, rfl⟩) rfl rfl ?_
      refine bq_aload_n (q := 113) G rfl dX5_split_112 rfl ?_
      refine bq_aload_n (q := 114) G rfl dX5_split_113 rfl ?_
      refine bq_geti (q := 117) G dX5_split_114 rfl fl_X5_34 (by first | assumption | exact ⟨Nat.le_of_ble_eq_true rfl, rfl⟩) rfl ?_
      refine bq_iload_n (q := 118) G rfl dX5_split_117 rfl ?_
      refine bq_iload_n (q := 119) G rfl dX5_split_118 rfl ?_
      refine bq_calls (q := 122) G dX5_split_119 rfl cl_X5_85 (c_X5_alike) rfl rfl ⟨Nat.le_of_ble_eq_true rfl, Nat.le_of_ble_eq_true rfl⟩ (Nat.le_of_ble_eq_true rfl) ⟨Nat.le_of_ble_eq_true rfl, Nat.le_of_ble_eq_true rfl⟩ rfl ?_
      refine bq_puti (q := 125) G dX5_split_122 rfl fl_X5_34 (by first | assumption | exact ⟨Nat.le_of_ble_eq_true rfl, rfl⟩) rfl rfl ?_
      refine bq_aload_n (q := 126) G rfl dX5_split_125 rfl ?_
      refine bq_aload_n (q := 127) G rfl dX5_split_126 rfl ?_
      refine bq_geti (q := 130) G dX5_split_127 rfl fl_X5_37 (by first | assumption | exact ⟨Nat.le_of_ble_eq_true rfl, rfl⟩) rfl ?_
      refine bq_iload_n (q := 131) G rfl dX5_split_130 rfl ?_
      refine bq_iload_n (q := 132) G rfl dX5_split_131 rfl ?_
      refine bq_calls (q := 135) G dX5_split_132 rfl cl_X5_85 (c_X5_alike) rfl rfl ⟨Nat.le_of_ble_eq_true rfl, Nat.le_of_ble_eq_true rfl⟩ (Nat.le_of_ble_eq_true rfl) ⟨Nat.le_of_ble_eq_true rfl, Nat.le_of_ble_eq_true rfl⟩ rfl ?_
      refine bq_puti (q := 138) G dX5_split_135 rfl fl_X5_37 (by first | assumption | exact ⟨Nat.le_of_ble_eq_true rfl, rfl⟩) rfl rfl ?_
      refine bq_iload_n (q := 139) G rfl dX5_split_138 rfl ?_
      refine hret _ _ _ _ _ dX5_split_139 ⟨?_, ⟨m7.row (fun j _ _ _ => ?_), ?_, ?_, ?_, ?_⟩, ?_, rfl⟩
      · unfold gs_spr; rw [if_neg hne, hfo]
      · unfold gs_sp
        have h51 : gs_s1 k S (51 + k) = 1 := by unfold gs_s1; rw [pk_un (by omega), pk_un (by omega)]; exact hcan.1
        rw [if_neg hne, hoS, gs_split_row ho hk hok h51]
      · rw [bq_sru, if_neg (by decide), bq_sru, if_neg (by decide), bq_sru, if_neg (by decide), e0, bq_srn1 (by omega), bq_srn1 (by omega)]
      · rw [bq_sru, if_neg (by decide), bq_sru, if_neg (by decide), bq_sru, if_neg (by decide), e2, bq_srn1 (by omega), bq_srn1 (by omega)]
      · rw [bq_sru, if_neg (by decide), bq_sru, if_neg (by decide), bq_sru, if_neg (by decide), e10, bq_srn1 (by omega), bq_srn1 (by omega)]
      · rw [bq_sru, if_neg (by decide), bq_sru, if_neg (by decide), bq_sru, if_neg (by decide), e11, bq_srn1 (by omega), bq_srn1 (by omega)]
      · intro x hx
        rw [bq_sr_n (by omega), bq_sr_n (by omega), bq_sr_n (by omega), fr x hx, bq_sr_n (by omega), bq_sr_n (by omega)]
    · rw [es] at c18
      have h1 : S (3 + k) = 1 := Int32.le_antisymm (Int32.not_lt.mp c18) hpos
      refine bq_aload_n (q := 22) G rfl dX5_split_21 rfl ?_
      refine bq_dup (q := 23) G rfl dX5_split_22 rfl ?_
      refine bq_geti (q := 26) G dX5_split_23 rfl fl_X5_40 (by first | assumption | exact ⟨Nat.le_of_ble_eq_true rfl, rfl⟩) rfl ?_
      refine bq_iconst (q := 27) (v := 1) G (by decide) dX5_split_26 rfl ?_
      refine bq_iload_n (q := 28) G rfl dX5_split_27 rfl ?_
      refine bq_ishl (q := 29) G dX5_split_28 rfl ?_
      refine bq_iconst (q := 30) (v := -1) G (by decide) dX5_split_29 rfl ?_
      refine bq_ixor (q := 31) G dX5_split_30 rfl ?_
      refine bq_iand (q := 32) G dX5_split_31 rfl ?_
      refine bq_puti (q := 35) G dX5_split_32 rfl fl_X5_40 (by first | assumption | exact ⟨Nat.le_of_ble_eq_true rfl, rfl⟩) rfl rfl ?_
      refine bq_bipush (q := 37) (v := -9) G (by decide) dX5_split_35 rfl ?_
      refine hret _ _ _ _ _ dX5_split_37 ⟨?_, ⟨?_, ?_, ?_, ?_, ?_⟩, ?_, rfl⟩
      · unfold gs_spr; rw [if_pos h1]
      · unfold gs_sp; rw [if_pos h1]
        exact hC.there (hC.2.2.2.2.2.set0 hk) (fun j hj => pk_un (by omega))
      · simp [bq_sr, upd]
      · simp [bq_sr, upd]
      · simp [bq_sr, upd]
      · simp [bq_sr, upd]
      · intro x hx
        rw [bq_sr_n (by omega)]
  · exact absurd hcan c5
set_option maxHeartbeats 1000000 in
set_option maxRecDepth 100000 in
theorem c_X5_copyFrom {z n : Nat} {R : bq_RR} {I : bq_IR} {L : bq_LR} {a : Nat} {o : Nat} {S : Nat → Int32} (hM : bq_Mo z n R a) (hO : bq_Mo z n R o) (hao : a + 3 < o ∨ o + 3 < a) (hC : bq_MC I o S) : bq_FV MX5_copyFrom z [.ref (z + a), .ref (z + o)] n R I L (fun J L' => (bq_MC J a S ∧ J a 0 = I o 0 ∧ J a 2 = I o 2) ∧ (∀ x, (x < a ∨ a + 3 < x) → J x = I x) ∧ L' = L) := by
  refine bq_FVof [some (.ref (z + a)), some (.ref (z + o)), none] rfl (Nat.le_of_ble_eq_true rfl) (by decide) rfl ?_
  intro A G hret
  have G : bq_Cx cX5_copyFrom RX5 3 z (bq_rm MX5_copyFrom 0 0) "copyFrom" A := G
  obtain ⟨hM0, hM1, hM2, hM3, hR3, hR4, hR5⟩ := id hM
  obtain ⟨hO0, hO1, hO2, hO3, hQ3, hQ4, hQ5⟩ := id hO
  have loop : ∀ k, k ≤ 8 → ∀ J : bq_IR, ((J a 0 = I o 0 ∧ J a 1 = I o 1 ∧ J a 2 = I o 2) ∧ (∀ b, b < k → J (a + 1) b = I (o + 1) b ∧ J (a + 2) b = I (o + 2) b ∧ J (a + 3) b = I (o + 3) b) ∧ ∀ x, (x < a ∨ a + 3 < x) → J x = I x) → A 0 0 26 [some (.ref (z + a)), some (.ref (z + o)), some (.int (nI k))] [] n R J L := by
    refine bq_down 8 ?_
    intro k hk ih J hJ
    obtain ⟨⟨j0, j1, j2⟩, jb, jf⟩ := hJ
    rcases Nat.lt_or_ge k 8 with hk8 | hk8
    · refine bq_iload_n (q := 27) G rfl dX5_copyFrom_26 rfl ?_
      refine bq_bipush (q := 29) (v := 8) G (by decide) dX5_copyFrom_27 rfl ?_
      refine bq_icmp_ge_f (q := 32) (t := 74) G dX5_copyFrom_29 rfl (by decide) (nI_ge (a := k) (b := 8) hk8 (by decide)) ?_
      refine bq_aload_n (q := 33) G rfl dX5_copyFrom_32 rfl ?_
      refine bq_getr (q := 36) G dX5_copyFrom_33 rfl fl_X5_9 (by first | assumption | exact ⟨Nat.le_of_ble_eq_true rfl, rfl⟩) (fun _ _ _ => rfl) (by first | assumption | rfl) ?_
      refine bq_iload_n (q := 37) G rfl dX5_copyFrom_36 rfl ?_
      refine bq_aload_n (q := 38) G rfl dX5_copyFrom_37 rfl ?_
      refine bq_getr (q := 41) G dX5_copyFrom_38 rfl fl_X5_9 (by first | assumption | exact ⟨Nat.le_of_ble_eq_true rfl, rfl⟩) (fun _ _ _ => rfl) (by first | assumption | rfl) ?_
      refine bq_iload_n (q := 42) G rfl dX5_copyFrom_41 rfl ?_
      refine bq_iald (q := 43) G dX5_copyFrom_42 rfl (by first | assumption | exact ⟨Nat.le_of_ble_eq_true rfl, rfl⟩) (by first | with_reducible assumption | with_reducible exact rfl | exact bq_ixa rfl (by with_reducible assumption) | exact rfl | exact bq_ixa rfl rfl | exact bq_ixa (by with_reducible assumption) rfl | exact bq_ixa rfl (bq_ixa (by first | rfl | with_reducible assumption) (by first | rfl | with_reducible assumption))) (by first | with_reducible assumption | omega | decide) (by decide) ?_
      refine bq_iast (q := 44) G dX5_copyFrom_43 rfl (by first | assumption | exact ⟨Nat.le_of_ble_eq_true rfl, rfl⟩) (by first | with_reducible assumption | with_reducible exact rfl | exact bq_ixa rfl (by with_reducible assumption) | exact rfl | exact bq_ixa rfl rfl | exact bq_ixa (by with_reducible assumption) rfl | exact bq_ixa rfl (bq_ixa (by first | rfl | with_reducible assumption) (by first | rfl | with_reducible assumption))) (by first | with_reducible assumption | omega | decide) (by decide) ?_
      refine bq_aload_n (q := 45) G rfl dX5_copyFrom_44 rfl ?_
      refine bq_getr (q := 48) G dX5_copyFrom_45 rfl fl_X5_15 (by first | assumption | exact ⟨Nat.le_of_ble_eq_true rfl, rfl⟩) (fun _ _ _ => rfl) (by first | assumption | rfl) ?_
      refine bq_iload_n (q := 49) G rfl dX5_copyFrom_48 rfl ?_
      refine bq_aload_n (q := 50) G rfl dX5_copyFrom_49 rfl ?_
      refine bq_getr (q := 53) G dX5_copyFrom_50 rfl fl_X5_15 (by first | assumption | exact ⟨Nat.le_of_ble_eq_true rfl, rfl⟩) (fun _ _ _ => rfl) (by first | assumption | rfl) ?_
      refine bq_iload_n (q := 54) G rfl dX5_copyFrom_53 rfl ?_
      refine bq_iald (q := 55) G dX5_copyFrom_54 rfl (by first | assumption | exact ⟨Nat.le_of_ble_eq_true rfl, rfl⟩) (by first | with_reducible assumption | with_reducible exact rfl | exact bq_ixa rfl (by with_reducible assumption) | exact rfl | exact bq_ixa rfl rfl | exact bq_ixa (by with_reducible assumption) rfl | exact bq_ixa rfl (bq_ixa (by first | rfl | with_reducible assumption) (by first | rfl | with_reducible assumption))) (by first | with_reducible assumption | omega | decide) (by decide) ?_
      refine bq_iast (q := 56) G dX5_copyFrom_55 rfl (by first | assumption | exact ⟨Nat.le_of_ble_eq_true rfl, rfl⟩) (by first | with_reducible assumption | with_reducible exact rfl | exact bq_ixa rfl (by with_reducible assumption) | exact rfl | exact bq_ixa rfl rfl | exact bq_ixa (by with_reducible assumption) rfl | exact bq_ixa rfl (bq_ixa (by first | rfl | with_reducible assumption) (by first | rfl | with_reducible assumption))) (by first | with_reducible assumption | omega | decide) (by decide) ?_
      refine bq_aload_n (q := 57) G rfl dX5_copyFrom_56 rfl ?_
      refine bq_getr (q := 60) G dX5_copyFrom_57 rfl fl_X5_18 (by first | assumption | exact ⟨Nat.le_of_ble_eq_true rfl, rfl⟩) (fun _ _ _ => rfl) (by first | assumption | rfl) ?_
      refine bq_iload_n (q := 61) G rfl dX5_copyFrom_60 rfl ?_
      refine bq_aload_n (q := 62) G rfl dX5_copyFrom_61 rfl ?_
      refine bq_getr (q := 65) G dX5_copyFrom_62 rfl fl_X5_18 (by first | assumption | exact ⟨Nat.le_of_ble_eq_true rfl, rfl⟩) (fun _ _ _ => rfl) (by first | assumption | rfl) ?_
      refine bq_iload_n (q := 66) G rfl dX5_copyFrom_65 rfl ?_
      refine bq_iald (q := 67) G dX5_copyFrom_66 rfl (by first | assumption | exact ⟨Nat.le_of_ble_eq_true rfl, rfl⟩) (by first | with_reducible assumption | with_reducible exact rfl | exact bq_ixa rfl (by with_reducible assumption) | exact rfl | exact bq_ixa rfl rfl | exact bq_ixa (by with_reducible assumption) rfl | exact bq_ixa rfl (bq_ixa (by first | rfl | with_reducible assumption) (by first | rfl | with_reducible assumption))) (by first | with_reducible assumption | omega | decide) (by decide) ?_
      refine bq_iast (q := 68) G dX5_copyFrom_67 rfl (by first | assumption | exact ⟨Nat.le_of_ble_eq_true rfl, rfl⟩) (by first | with_reducible assumption | with_reducible exact rfl | exact bq_ixa rfl (by with_reducible assumption) | exact rfl | exact bq_ixa rfl rfl | exact bq_ixa (by with_reducible assumption) rfl | exact bq_ixa rfl (bq_ixa (by first | rfl | with_reducible assumption) (by first | rfl | with_reducible assumption))) (by first | with_reducible assumption | omega | decide) (by decide) ?_
      refine bq_iinc (q := 71) (ls' := [_, _, _]) G dX5_copyFrom_68 rfl rfl (by first | exact nI_1 _ | exact pk_m1 _ | rfl) (by decide) rfl rfl ?_
      refine bq_goto (q := 26) G dX5_copyFrom_71 (by decide) ?_
      refine ih hk8 _ ⟨⟨?_, ?_, ?_⟩, fun b hb => ⟨?_, ?_, ?_⟩, fun x hx => ?_⟩
      · rw [bq_srn1 (by omega), bq_srn1 (by omega), bq_srn1 (by omega)]; exact j0
      · rw [bq_srn1 (by omega), bq_srn1 (by omega), bq_srn1 (by omega)]; exact j1
      · rw [bq_srn1 (by omega), bq_srn1 (by omega), bq_srn1 (by omega)]; exact j2
      · rw [bq_srn1 (by omega), bq_srn1 (by omega), bq_sru]
        split
        · rename_i e; rw [e, jf (o + 1) (by omega)]
        · exact (jb b (by omega)).1
      · rw [bq_srn1 (by omega), bq_sru]
        split
        · rename_i e; rw [e, bq_srn1 (by omega), jf (o + 2) (by omega)]
        · rw [bq_srn1 (by omega)]; exact (jb b (by omega)).2.1
      · rw [bq_sru]
        split
        · rename_i e; rw [e, bq_srn1 (by omega), bq_srn1 (by omega), jf (o + 3) (by omega)]
        · rw [bq_srn1 (by omega), bq_srn1 (by omega)]; exact (jb b (by omega)).2.2
      · rw [bq_sr_n (by omega), bq_sr_n (by omega), bq_sr_n (by omega)]; exact jf x hx
    · have hk9 : k = 8 := by omega
      subst hk9
      have jo : J o = I o := jf o (by omega)
      refine bq_iload_n (q := 27) G rfl dX5_copyFrom_26 rfl ?_
      refine bq_bipush (q := 29) (v := 8) G (by decide) dX5_copyFrom_27 rfl ?_
      refine bq_icmp_ge_t (t := 74) G dX5_copyFrom_29 (by decide) (nI_le (a := 8) (b := 8) (by omega) (by decide)) ?_
      refine bq_aload_n (q := 75) G rfl dX5_copyFrom_74 rfl ?_
      refine bq_aload_n (q := 76) G rfl dX5_copyFrom_75 rfl ?_
      refine bq_geti (q := 79) G dX5_copyFrom_76 rfl fl_X5_31 (by first | assumption | exact ⟨Nat.le_of_ble_eq_true rfl, rfl⟩) rfl ?_
      refine bq_puti (q := 82) G dX5_copyFrom_79 rfl fl_X5_31 (by first | assumption | exact ⟨Nat.le_of_ble_eq_true rfl, rfl⟩) rfl rfl ?_
      refine bq_aload_n (q := 83) G rfl dX5_copyFrom_82 rfl ?_
      refine bq_aload_n (q := 84) G rfl dX5_copyFrom_83 rfl ?_
      refine bq_geti (q := 87) G dX5_copyFrom_84 rfl fl_X5_34 (by first | assumption | exact ⟨Nat.le_of_ble_eq_true rfl, rfl⟩) rfl ?_
      refine bq_puti (q := 90) G dX5_copyFrom_87 rfl fl_X5_34 (by first | assumption | exact ⟨Nat.le_of_ble_eq_true rfl, rfl⟩) rfl rfl ?_
      refine bq_aload_n (q := 91) G rfl dX5_copyFrom_90 rfl ?_
      refine bq_aload_n (q := 92) G rfl dX5_copyFrom_91 rfl ?_
      refine bq_geti (q := 95) G dX5_copyFrom_92 rfl fl_X5_37 (by first | assumption | exact ⟨Nat.le_of_ble_eq_true rfl, rfl⟩) rfl ?_
      refine bq_puti (q := 98) G dX5_copyFrom_95 rfl fl_X5_37 (by first | assumption | exact ⟨Nat.le_of_ble_eq_true rfl, rfl⟩) rfl rfl ?_
      refine bq_aload_n (q := 99) G rfl dX5_copyFrom_98 rfl ?_
      refine bq_aload_n (q := 100) G rfl dX5_copyFrom_99 rfl ?_
      refine bq_geti (q := 103) G dX5_copyFrom_100 rfl fl_X5_40 (by first | assumption | exact ⟨Nat.le_of_ble_eq_true rfl, rfl⟩) rfl ?_
      refine bq_puti (q := 106) G dX5_copyFrom_103 rfl fl_X5_40 (by first | assumption | exact ⟨Nat.le_of_ble_eq_true rfl, rfl⟩) rfl rfl ?_
      refine hret _ _ _ _ dX5_copyFrom_106 ⟨⟨⟨?_, fun b hb => ?_, ?_, ?_, ?_, ?_⟩, ?_, ?_⟩, fun x hx => ?_, rfl⟩
      · rw [bq_sru, if_neg (by decide), bq_sru, if_neg (by decide), bq_sru, if_neg (by decide), bq_sru, if_neg (by decide), j1]; exact hC.1
      · rw [bq_srn1 (by omega), bq_srn1 (by omega), bq_srn1 (by omega), bq_srn1 (by omega), bq_srn1 (by omega), bq_srn1 (by omega), bq_srn1 (by omega), bq_srn1 (by omega), bq_srn1 (by omega), bq_srn1 (by omega), bq_srn1 (by omega), bq_srn1 (by omega), (jb b hb).1, (jb b hb).2.1, (jb b hb).2.2]
        exact hC.2.1 b hb
      · rw [bq_sru, if_neg (by decide), bq_sru, if_neg (by decide), bq_sru, if_neg (by decide), bq_sru, if_pos rfl, jo]; exact hC.2.2.1
      · rw [bq_sru, if_neg (by decide), bq_sru, if_neg (by decide), bq_sru, if_pos rfl, bq_srn1 (by omega), jo]; exact hC.2.2.2.1
      · rw [bq_sru, if_neg (by decide), bq_sru, if_pos rfl, bq_srn1 (by omega), bq_srn1 (by omega), jo]; exact hC.2.2.2.2.1
      · rw [bq_sru, if_pos rfl, bq_srn1 (by omega), bq_srn1 (by omega), bq_srn1 (by omega), jo]; exact hC.2.2.2.2.2
      · rw [bq_sru, if_neg (by decide), bq_sru, if_neg (by decide), bq_sru, if_neg (by decide), bq_sru, if_neg (by decide)]; exact j0
      · rw [bq_sru, if_neg (by decide), bq_sru, if_neg (by decide), bq_sru, if_neg (by decide), bq_sru, if_neg (by decide)]; exact j2
      · rw [bq_sr_n (by omega), bq_sr_n (by omega), bq_sr_n (by omega), bq_sr_n (by omega)]; exact jf x hx
  refine bq_aload_n (q := 1) G rfl dX5_copyFrom_0 rfl ?_
  refine bq_aload_n (q := 2) G rfl dX5_copyFrom_1 rfl ?_
  refine bq_geti (q := 5) G dX5_copyFrom_2 rfl fl_X5_21 (by first | assumption | exact ⟨Nat.le_of_ble_eq_true rfl, rfl⟩) rfl ?_
  refine bq_puti (q := 8) G dX5_copyFrom_5 rfl fl_X5_21 (by first | assumption | exact ⟨Nat.le_of_ble_eq_true rfl, rfl⟩) rfl rfl ?_
  refine bq_aload_n (q := 9) G rfl dX5_copyFrom_8 rfl ?_
  refine bq_aload_n (q := 10) G rfl dX5_copyFrom_9 rfl ?_
  refine bq_geti (q := 13) G dX5_copyFrom_10 rfl fl_X5_25 (by first | assumption | exact ⟨Nat.le_of_ble_eq_true rfl, rfl⟩) rfl ?_
  refine bq_puti (q := 16) G dX5_copyFrom_13 rfl fl_X5_25 (by first | assumption | exact ⟨Nat.le_of_ble_eq_true rfl, rfl⟩) rfl rfl ?_
  refine bq_aload_n (q := 17) G rfl dX5_copyFrom_16 rfl ?_
  refine bq_aload_n (q := 18) G rfl dX5_copyFrom_17 rfl ?_
  refine bq_geti (q := 21) G dX5_copyFrom_18 rfl fl_X5_28 (by first | assumption | exact ⟨Nat.le_of_ble_eq_true rfl, rfl⟩) rfl ?_
  refine bq_puti (q := 24) G dX5_copyFrom_21 rfl fl_X5_28 (by first | assumption | exact ⟨Nat.le_of_ble_eq_true rfl, rfl⟩) rfl rfl ?_
  refine bq_iconst (q := 25) (v := 0) G (by decide) dX5_copyFrom_24 rfl ?_
  refine bq_istore_n (q := 26) (ls' := [_, _, _]) G dX5_copyFrom_25 rfl (by decide) rfl rfl ?_
  refine loop 0 (by omega) _ ⟨⟨?_, ?_, ?_⟩, fun b hb => by omega, fun x hx => ?_⟩
  · rw [bq_sru, if_neg (by decide), bq_sru, if_neg (by decide), bq_sru, if_pos rfl]
  · rw [bq_sru, if_neg (by decide), bq_sru, if_pos rfl, bq_srn1 (by omega)]
  · rw [bq_sru, if_pos rfl, bq_srn1 (by omega), bq_srn1 (by omega)]
  · rw [bq_sr_n (by omega), bq_sr_n (by omega), bq_sr_n (by omega)]
set_option maxHeartbeats 1000000 in
set_option maxRecDepth 100000 in
theorem c_X5_empty {z n : Nat} {R : bq_RR} {I : bq_IR} {L : bq_LR} {a : Nat}  (hM : bq_Mo z n R a) : bq_FV MX5_empty z [.ref (z + a)] n R I L (fun J L' => (bq_MC J a (fun _ => 0) ∧ J a 0 = 0 ∧ J a 2 = 0) ∧ (∀ x, (x < a ∨ a + 3 < x) → J x = I x) ∧ L' = L) := by
  refine bq_FVof [some (.ref (z + a)), none] rfl (Nat.le_of_ble_eq_true rfl) (by decide) rfl ?_
  intro A G hret
  have G : bq_Cx cX5_empty RX5 2 z (bq_rm MX5_empty 0 0) "empty" A := G
  obtain ⟨hM0, hM1, hM2, hM3, hR3, hR4, hR5⟩ := id hM
  have F0 : ∀ o, gs_F (fun _ => 0) o 0 := fun o => ⟨0, by decide, rfl, fun j _ => by rw [Nat.zero_div]; rfl⟩
  have loop : ∀ k, k ≤ 8 → ∀ J : bq_IR, ((J a 0 = 0 ∧ J a 1 = 0 ∧ J a 2 = 0) ∧ (∀ b, b < k → J (a + 1) b = 0 ∧ J (a + 2) b = 0 ∧ J (a + 3) b = 0) ∧ ∀ x, (x < a ∨ a + 3 < x) → J x = I x) → A 0 0 17 [some (.ref (z + a)), some (.int (nI k))] [] n R J L := by
    refine bq_down 8 ?_
    intro k hk ih J hJ
    obtain ⟨⟨j0, j1, j2⟩, jb, jf⟩ := hJ
    rcases Nat.lt_or_ge k 8 with hk8 | hk8
    · refine bq_iload_n (q := 18) G rfl dX5_empty_17 rfl ?_
      refine bq_bipush (q := 20) (v := 8) G (by decide) dX5_empty_18 rfl ?_
      refine bq_icmp_ge_f (q := 23) (t := 50) G dX5_empty_20 rfl (by decide) (nI_ge (a := k) (b := 8) hk8 (by decide)) ?_
      refine bq_aload_n (q := 24) G rfl dX5_empty_23 rfl ?_
      refine bq_getr (q := 27) G dX5_empty_24 rfl fl_X5_9 (by first | assumption | exact ⟨Nat.le_of_ble_eq_true rfl, rfl⟩) (fun _ _ _ => rfl) (by first | assumption | rfl) ?_
      refine bq_iload_n (q := 28) G rfl dX5_empty_27 rfl ?_
      refine bq_iconst (q := 29) (v := 0) G (by decide) dX5_empty_28 rfl ?_
      refine bq_iast (q := 30) G dX5_empty_29 rfl (by first | assumption | exact ⟨Nat.le_of_ble_eq_true rfl, rfl⟩) (by first | with_reducible assumption | with_reducible exact rfl | exact bq_ixa rfl (by with_reducible assumption) | exact rfl | exact bq_ixa rfl rfl | exact bq_ixa (by with_reducible assumption) rfl | exact bq_ixa rfl (bq_ixa (by first | rfl | with_reducible assumption) (by first | rfl | with_reducible assumption))) (by first | with_reducible assumption | omega | decide) (by decide) ?_
      refine bq_aload_n (q := 31) G rfl dX5_empty_30 rfl ?_
      refine bq_getr (q := 34) G dX5_empty_31 rfl fl_X5_15 (by first | assumption | exact ⟨Nat.le_of_ble_eq_true rfl, rfl⟩) (fun _ _ _ => rfl) (by first | assumption | rfl) ?_
      refine bq_iload_n (q := 35) G rfl dX5_empty_34 rfl ?_
      refine bq_iconst (q := 36) (v := 0) G (by decide) dX5_empty_35 rfl ?_
      refine bq_iast (q := 37) G dX5_empty_36 rfl (by first | assumption | exact ⟨Nat.le_of_ble_eq_true rfl, rfl⟩) (by first | with_reducible assumption | with_reducible exact rfl | exact bq_ixa rfl (by with_reducible assumption) | exact rfl | exact bq_ixa rfl rfl | exact bq_ixa (by with_reducible assumption) rfl | exact bq_ixa rfl (bq_ixa (by first | rfl | with_reducible assumption) (by first | rfl | with_reducible assumption))) (by first | with_reducible assumption | omega | decide) (by decide) ?_
      refine bq_aload_n (q := 38) G rfl dX5_empty_37 rfl ?_
      refine bq_getr (q := 41) G dX5_empty_38 rfl fl_X5_18 (by first | assumption | exact ⟨Nat.le_of_ble_eq_true rfl, rfl⟩) (fun _ _ _ => rfl) (by first | assumption | rfl) ?_
      refine bq_iload_n (q := 42) G rfl dX5_empty_41 rfl ?_
      refine bq_iconst (q := 43) (v := 0) G (by decide) dX5_empty_42 rfl ?_
      refine bq_iast (q := 44) G dX5_empty_43 rfl (by first | assumption | exact ⟨Nat.le_of_ble_eq_true rfl, rfl⟩) (by first | with_reducible assumption | with_reducible exact rfl | exact bq_ixa rfl (by with_reducible assumption) | exact rfl | exact bq_ixa rfl rfl | exact bq_ixa (by with_reducible assumption) rfl | exact bq_ixa rfl (bq_ixa (by first | rfl | with_reducible assumption) (by first | rfl | with_reducible assumption))) (by first | with_reducible assumption | omega | decide) (by decide) ?_
      refine bq_iinc (q := 47) (ls' := [_, _]) G dX5_empty_44 rfl rfl (by first | exact nI_1 _ | exact pk_m1 _ | rfl) (by decide) rfl rfl ?_
      refine bq_goto (q := 17) G dX5_empty_47 (by decide) ?_
      refine ih hk8 _ ⟨⟨?_, ?_, ?_⟩, fun b hb => ⟨?_, ?_, ?_⟩, fun x hx => ?_⟩
      · rw [bq_srn1 (by omega), bq_srn1 (by omega), bq_srn1 (by omega)]; exact j0
      · rw [bq_srn1 (by omega), bq_srn1 (by omega), bq_srn1 (by omega)]; exact j1
      · rw [bq_srn1 (by omega), bq_srn1 (by omega), bq_srn1 (by omega)]; exact j2
      · rw [bq_srn1 (by omega), bq_srn1 (by omega), bq_sru]
        split
        · rfl
        · exact (jb b (by omega)).1
      · rw [bq_srn1 (by omega), bq_sru]
        split
        · rfl
        · rw [bq_srn1 (by omega)]; exact (jb b (by omega)).2.1
      · rw [bq_sru]
        split
        · rfl
        · rw [bq_srn1 (by omega), bq_srn1 (by omega)]; exact (jb b (by omega)).2.2
      · rw [bq_sr_n (by omega), bq_sr_n (by omega), bq_sr_n (by omega)]; exact jf x hx
    · have hk9 : k = 8 := by omega
      subst hk9
      refine bq_iload_n (q := 18) G rfl dX5_empty_17 rfl ?_
      refine bq_bipush (q := 20) (v := 8) G (by decide) dX5_empty_18 rfl ?_
      refine bq_icmp_ge_t (t := 50) G dX5_empty_20 (by decide) (nI_le (a := 8) (b := 8) (by omega) (by decide)) ?_
      refine bq_aload_n (q := 51) G rfl dX5_empty_50 rfl ?_
      refine bq_iconst (q := 52) (v := 0) G (by decide) dX5_empty_51 rfl ?_
      refine bq_puti (q := 55) G dX5_empty_52 rfl fl_X5_31 (by first | assumption | exact ⟨Nat.le_of_ble_eq_true rfl, rfl⟩) rfl rfl ?_
      refine bq_aload_n (q := 56) G rfl dX5_empty_55 rfl ?_
      refine bq_iconst (q := 57) (v := 0) G (by decide) dX5_empty_56 rfl ?_
      refine bq_puti (q := 60) G dX5_empty_57 rfl fl_X5_34 (by first | assumption | exact ⟨Nat.le_of_ble_eq_true rfl, rfl⟩) rfl rfl ?_
      refine bq_aload_n (q := 61) G rfl dX5_empty_60 rfl ?_
      refine bq_iconst (q := 62) (v := 0) G (by decide) dX5_empty_61 rfl ?_
      refine bq_puti (q := 65) G dX5_empty_62 rfl fl_X5_37 (by first | assumption | exact ⟨Nat.le_of_ble_eq_true rfl, rfl⟩) rfl rfl ?_
      refine bq_aload_n (q := 66) G rfl dX5_empty_65 rfl ?_
      refine bq_iconst (q := 67) (v := 0) G (by decide) dX5_empty_66 rfl ?_
      refine bq_puti (q := 70) G dX5_empty_67 rfl fl_X5_40 (by first | assumption | exact ⟨Nat.le_of_ble_eq_true rfl, rfl⟩) rfl rfl ?_
      refine hret _ _ _ _ dX5_empty_70 ⟨⟨⟨?_, fun b hb => ?_, ?_, ?_, ?_, ?_⟩, ?_, ?_⟩, fun x hx => ?_, rfl⟩
      · rw [bq_sru, if_neg (by decide), bq_sru, if_neg (by decide), bq_sru, if_neg (by decide), bq_sru, if_neg (by decide)]; exact j1
      · rw [bq_srn1 (by omega), bq_srn1 (by omega), bq_srn1 (by omega), bq_srn1 (by omega), bq_srn1 (by omega), bq_srn1 (by omega), bq_srn1 (by omega), bq_srn1 (by omega), bq_srn1 (by omega), bq_srn1 (by omega), bq_srn1 (by omega), bq_srn1 (by omega)]
        exact jb b hb
      · rw [bq_sru, if_neg (by decide), bq_sru, if_neg (by decide), bq_sru, if_neg (by decide), bq_sru, if_pos rfl]; exact F0 27
      · rw [bq_sru, if_neg (by decide), bq_sru, if_neg (by decide), bq_sru, if_pos rfl]; exact F0 35
      · rw [bq_sru, if_neg (by decide), bq_sru, if_pos rfl]; exact F0 43
      · rw [bq_sru, if_pos rfl]; exact F0 51
      · rw [bq_sru, if_neg (by decide), bq_sru, if_neg (by decide), bq_sru, if_neg (by decide), bq_sru, if_neg (by decide)]; exact j0
      · rw [bq_sru, if_neg (by decide), bq_sru, if_neg (by decide), bq_sru, if_neg (by decide), bq_sru, if_neg (by decide)]; exact j2
      · rw [bq_sr_n (by omega), bq_sr_n (by omega), bq_sr_n (by omega), bq_sr_n (by omega)]; exact jf x hx
  refine bq_aload_n (q := 1) G rfl dX5_empty_0 rfl ?_
  refine bq_iconst (q := 2) (v := 0) G (by decide) dX5_empty_1 rfl ?_
  refine bq_puti (q := 5) G dX5_empty_2 rfl fl_X5_21 (by first | assumption | exact ⟨Nat.le_of_ble_eq_true rfl, rfl⟩) rfl rfl ?_
  refine bq_aload_n (q := 6) G rfl dX5_empty_5 rfl ?_
  refine bq_iconst (q := 7) (v := 0) G (by decide) dX5_empty_6 rfl ?_
  refine bq_puti (q := 10) G dX5_empty_7 rfl fl_X5_25 (by first | assumption | exact ⟨Nat.le_of_ble_eq_true rfl, rfl⟩) rfl rfl ?_
  refine bq_aload_n (q := 11) G rfl dX5_empty_10 rfl ?_
  refine bq_iconst (q := 12) (v := 0) G (by decide) dX5_empty_11 rfl ?_
  refine bq_puti (q := 15) G dX5_empty_12 rfl fl_X5_28 (by first | assumption | exact ⟨Nat.le_of_ble_eq_true rfl, rfl⟩) rfl rfl ?_
  refine bq_iconst (q := 16) (v := 0) G (by decide) dX5_empty_15 rfl ?_
  refine bq_istore_n (q := 17) (ls' := [_, _]) G dX5_empty_16 rfl (by decide) rfl rfl ?_
  refine loop 0 (by omega) _ ⟨⟨?_, ?_, ?_⟩, fun b hb => by omega, fun x hx => ?_⟩
  · rw [bq_sru, if_neg (by decide), bq_sru, if_neg (by decide), bq_sru, if_pos rfl]
  · rw [bq_sru, if_neg (by decide), bq_sru, if_pos rfl]
  · rw [bq_sru, if_pos rfl]
  · rw [bq_sr_n (by omega), bq_sr_n (by omega), bq_sr_n (by omega)]
