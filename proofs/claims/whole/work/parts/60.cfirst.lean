/-! what was measured, by the class -/
theorem gs_so_s {M : Nat → Int32} {q : Nat} {w d ar : Int32} {S : Nat → Int32} {n : Nat} : gs_so M q w d ar S (n + 1) ↔ gs_so M q w d ar S n ∧ ∀ i, i < q → M (2 * i) = nI n → M (2 * i + 1) = gs_it w d ar S n 1 := by
  constructor
  · intro h
    exact ⟨fun k hk => h k (by omega), h n (by omega)⟩
  · rintro ⟨h1, h2⟩ k hk
    rcases Nat.lt_or_ge k n with h | h
    · exact h1 k h
    · rw [show k = n by omega]; exact h2
theorem gs_so_le {M : Nat → Int32} {q : Nat} {w d ar : Int32} {S : Nat → Int32} {n m : Nat} (h : gs_so M q w d ar S m) (hn : n ≤ m) : gs_so M q w d ar S n := fun k hk => h k (by omega)
theorem gs_Ok.s1 {S : Nat → Int32} (h : gs_Ok S) {k : Nat} (hk : k < 8) (h1 : S (51 + k) = 1) (h2 : ¬ S (3 + k) = 1) : gs_Ok (gs_s1 k S) := by
  refine ⟨?_, fun b hb => ?_⟩
  · unfold gs_s1; rw [pk_un (by omega), pk_un (by omega)]; exact h.1
  · have e27 : gs_s1 k S (27 + b) = S (27 + b) := by unfold gs_s1; rw [pk_un (by omega), pk_un (by omega)]
    have e35 : gs_s1 k S (35 + b) = S (35 + b) := by unfold gs_s1; rw [pk_un (by omega), pk_un (by omega)]
    have e43 : gs_s1 k S (43 + b) = S (43 + b) := by unfold gs_s1; rw [pk_un (by omega), pk_un (by omega)]
    have e51 : gs_s1 k S (51 + b) = S (51 + b) := by unfold gs_s1; rw [pk_un (by omega), pk_un (by omega)]
    obtain ⟨g1, g2, g3⟩ := h.2 b hb
    rw [e27, e35, e43, e51]
    by_cases e : b = k
    · subst e
      obtain ⟨a1, a2, a3⟩ := g2 h1
      have e3 : gs_s1 b S (3 + b) = S (3 + b) / 2 := by unfold gs_s1; rw [pk_un (by omega), pk_us]
      have e11 : gs_s1 b S (11 + b) = if 40 < 2 * S (11 + b) then 40 else 2 * S (11 + b) := by unfold gs_s1; rw [pk_us]
      have hh := gs_half g1.1 g1.2
      have e0 : (0 : Int32).toInt = 0 := rfl
      have e1 : (1 : Int32).toInt = 1 := rfl
      have e64 : (64 : Int32).toInt = 64 := rfl
      have hne : ¬ (S (3 + b)).toInt = 1 := fun hx => h2 (Int32.toInt_inj.mp (by rw [hx, e1]))
      have hs := g1
      simp only [Int32.le_iff_toInt_le, e0, e1, e64] at hs a1
      rw [e3, e11]
      refine ⟨⟨?_, ?_⟩, fun _ => ⟨?_, ?_⟩, g3⟩
      · rw [Int32.le_iff_toInt_le, e0]; omega
      · rw [Int32.le_iff_toInt_le, e64]; omega
      · rw [Int32.le_iff_toInt_le, e1]; omega
      · obtain ⟨y, hy, ey⟩ := gs_rng (M := 40) (k := 40) (by decide) ⟨Int32.le_trans (by decide) a2, a3⟩
        rw [ey] at a2 ⊢
        have hy1 : 1 ≤ y := (nI_leI (a := 1) (by decide) (by omega)).mp a2
        rw [show (2 : Int32) = nI 2 from rfl, pk_mul]
        split
        · exact ⟨by decide, by decide⟩
        · rename_i hn
          have hn2 : 2 * y ≤ 40 := by
            rcases Nat.lt_or_ge 40 (2 * y) with h | h
            · exact absurd (nI_lt (a := 40) h (by omega)) hn
            · exact h
          exact ⟨nI_le (a := 1) (by omega) (by omega), nI_le (b := 40) (by omega) (by decide)⟩
    · have e3 : gs_s1 k S (3 + b) = S (3 + b) := by unfold gs_s1; rw [pk_un (by omega), pk_un (by omega)]
      have e11 : gs_s1 k S (11 + b) = S (11 + b) := by unfold gs_s1; rw [pk_un (by omega), pk_un (by omega)]
      rw [e3, e11]
      exact ⟨g1, g2, g3⟩
theorem gs_c7_b {o k : Nat} (ho : o < 8) (hk : k < 8) (hok : o ≠ k) {S : Nat → Int32} {i b : Nat} (hi : i < 7) (hb : b < 8) : gs_c7 o k 7 S (3 + 8 * i + b) = S (3 + 8 * i + (if b = o then k else b)) := by
  by_cases e : b = o
  · subst e
    rw [if_pos rfl]
    exact gs_c7_in hb hk hok 7 i hi
  · rw [if_neg e]
    exact gs_c7_out ho 7 _ (fun j hj => by omega)
theorem gs_Ok.c7 {S : Nat → Int32} (h : gs_Ok S) {o k : Nat} (ho : o < 8) (hk : k < 8) (hok : o ≠ k) : gs_Ok (gs_c7 o k 7 S) := by
  refine ⟨by rw [gs_c7_out ho 7 1 (fun j hj => by omega)]; exact h.1, fun b hb => ?_⟩
  have hb' : (if b = o then k else b) < 8 := by split <;> omega
  have e0 := gs_c7_b ho hk hok (S := S) (i := 0) (by decide) hb
  have e1 := gs_c7_b ho hk hok (S := S) (i := 1) (by decide) hb
  have e3 := gs_c7_b ho hk hok (S := S) (i := 3) (by decide) hb
  have e4 := gs_c7_b ho hk hok (S := S) (i := 4) (by decide) hb
  have e5 := gs_c7_b ho hk hok (S := S) (i := 5) (by decide) hb
  have e6 := gs_c7_b ho hk hok (S := S) (i := 6) (by decide) hb
  have hh := h.2 _ hb'
  generalize (if b = o then k else b) = c at *
  have f0 : gs_c7 o k 7 S (3 + b) = S (3 + c) := e0
  have f1 : gs_c7 o k 7 S (11 + b) = S (11 + c) := e1
  have f3 : gs_c7 o k 7 S (27 + b) = S (27 + c) := e3
  have f4 : gs_c7 o k 7 S (35 + b) = S (35 + c) := e4
  have f5 : gs_c7 o k 7 S (43 + b) = S (43 + c) := e5
  have f6 : gs_c7 o k 7 S (51 + b) = S (51 + c) := e6
  rw [f0, f1, f3, f4, f5, f6]
  exact hh
theorem gs_Ok.there0 {S : Nat → Int32} (h : gs_Ok S) {k : Nat} (hk : k < 8) : gs_Ok (upd S (51 + k) 0) := by
  refine ⟨by rw [pk_un (by omega)]; exact h.1, fun b hb => ?_⟩
  obtain ⟨g1, g2, g3, g4, g5, g6⟩ := h.2 b hb
  rw [pk_un (show 3 + b ≠ 51 + k by omega), pk_un (show 11 + b ≠ 51 + k by omega), pk_un (show 27 + b ≠ 51 + k by omega), pk_un (show 35 + b ≠ 51 + k by omega), pk_un (show 43 + b ≠ 51 + k by omega)]
  by_cases e : b = k
  · subst e
    rw [pk_us]
    exact ⟨g1, fun h => absurd h (by decide), g3, g4, g5, Or.inl rfl⟩
  · rw [pk_un (by omega)]
    exact ⟨g1, g2, g3, g4, g5, g6⟩
theorem gs_Ok.sp {S : Nat → Int32} (h : gs_Ok S) {k : Nat} (hk : k < 8) (h1 : S (51 + k) = 1) (hc : S (3 + k) = 1 ∨ ¬ gs_fk S 8 0 = -9) : gs_Ok (gs_sp k S) := by
  unfold gs_sp
  by_cases h3 : S (3 + k) = 1
  · rw [if_pos h3]; exact h.there0 hk
  · rw [if_neg h3]
    have hne : gs_o S ≠ k := by
      unfold gs_o
      rcases gs_fk_or S 8 0 with e | ⟨o, h4, h5, e, h6⟩
      · exact absurd e (hc.resolve_left h3)
      · rw [e, nI_clamp (by omega)]
        intro ho
        rw [ho, h1] at h6
        exact absurd h6 (by decide)
    exact (h.s1 hk h1 h3).c7 (gs_o_lt S) hk hne
theorem gs_sf_u {M : Nat → Int32} {q : Nat} {T B : Nat → Int32} : ∀ (b : Nat) {x y : Int32}, gs_sf M q T B b x → gs_sf M q T B b y → x = y
  | 0, x, y, hx, hy => by
    rcases hx with ⟨h1, e1⟩ | ⟨h1, e1⟩ <;> rcases hy with ⟨h2, e2⟩ | ⟨h2, e2⟩
    · rw [e1, e2]
    · exact absurd h1 h2
    · exact absurd h2 h1
    · rw [e1, e2]
  | b + 1, x, y, hx, hy => by
    obtain ⟨f, hf, hx⟩ := hx
    obtain ⟨g, hg, hy⟩ := hy
    have e := gs_sf_u b hf hg
    subst e
    rcases hx with ⟨h1, h1', e1⟩ | ⟨h1, e1⟩ <;> rcases hy with ⟨h2, h2', e2⟩ | ⟨h2, e2⟩
    · rw [e1, e2]
    · exact absurd ⟨h1, h1'⟩ h2
    · exact absurd ⟨h2, h2'⟩ h1
    · rw [e1, e2]
set_option maxHeartbeats 1000000 in
set_option maxRecDepth 100000 in
theorem c_X4_allowWater {z : Nat} {I : bq_IR} {L : bq_LR} {i w : Int32} {q : Nat} (hq : I 69 2 = nI q) (hq4 : q ≤ 4) : bq_FI MX4_allowWater z [.ref (z + 69), .int i, .int w] 85 (bq_Rf z) I L (fun r J L' => ((r = 1 ∧ ∀ j, j < q → I 70 j = i → I 71 j = w) ∨ (r = 0 ∧ ¬ ∀ j, j < q → I 70 j = i → I 71 j = w)) ∧ J = I ∧ L' = L) := by
  refine bq_FIof [some (.ref (z + 69)), some (.int i), some (.int w), none] rfl (Nat.le_of_ble_eq_true rfl) (by decide) rfl (fun _ _ _ h => by rcases h.1 with ⟨h, _⟩ | ⟨h, _⟩ <;> rw [h] <;> rfl) ?_
  intro A G hret
  have G : bq_Cx cX4_allowWater RX4 4 z (bq_rm MX4_allowWater 0 0) "allowWater" A := G
  have loop : ∀ k, k ≤ q → (∀ j, j < k → I 70 j = i → I 71 j = w) → A 0 0 2 [some (.ref (z + 69)), some (.int i), some (.int w), some (.int (nI k))] [] 85 (bq_Rf z) I L := by
    refine bq_down q ?_
    intro k hk ih hb
    rcases Nat.lt_or_ge k q with hk8 | hk8
    · have go : (I 70 k = i → I 71 k = w) → A 0 0 37 [some (.ref (z + 69)), some (.int i), some (.int w), some (.int (nI k))] [] 85 (bq_Rf z) I L := by
        intro h
        refine bq_iinc (q := 40) (ls' := [_, _, _, _]) G dX4_allowWater_37 rfl rfl (by first | exact nI_1 _ | exact pk_m1 _ | rfl) (by decide) rfl rfl ?_
        refine bq_goto (q := 2) G dX4_allowWater_40 (by decide) ?_
        refine ih hk8 (fun j hj => ?_)
        rcases Nat.lt_or_ge j k with h8 | h8
        · exact hb j h8
        · rw [show j = k by omega]; exact h
      refine bq_iload_n (q := 3) G rfl dX4_allowWater_2 rfl ?_
      refine bq_aload_n (q := 4) G rfl dX4_allowWater_3 rfl ?_
      refine bq_geti (q := 7) G dX4_allowWater_4 rfl fl_X4_16 (by first | assumption | exact ⟨Nat.le_of_ble_eq_true rfl, rfl⟩) rfl ?_
      refine bq_icmp_ge_f (q := 10) (t := 43) G dX4_allowWater_7 rfl (by decide) (by rw [hq]; exact nI_ge (a := k) (b := q) hk8 (by omega)) ?_
      refine bq_iload_n (q := 11) G rfl dX4_allowWater_10 rfl ?_
      refine bq_iconst (q := 12) (v := 4) G (by decide) dX4_allowWater_11 rfl ?_
      refine bq_icmp_ge_f (q := 15) (t := 43) G dX4_allowWater_12 rfl (by decide) (nI_ge (a := k) (b := 4) (by omega) (by decide)) ?_
      refine bq_aload_n (q := 16) G rfl dX4_allowWater_15 rfl ?_
      refine bq_getr (q := 19) G dX4_allowWater_16 rfl fl_X4_9 (by first | assumption | exact ⟨Nat.le_of_ble_eq_true rfl, rfl⟩) (fun _ _ _ => rfl) (rf_69_0 z) ?_
      refine bq_iload_n (q := 20) G rfl dX4_allowWater_19 rfl ?_
      refine bq_iald (q := 21) (b := k) G dX4_allowWater_20 rfl (by first | assumption | exact ⟨Nat.le_of_ble_eq_true rfl, rfl⟩) rfl (by omega) (by decide) ?_
      refine bq_iload_n (q := 22) G rfl dX4_allowWater_21 rfl ?_
      refine bq_icmp_ne (t := 37) (q := 25) G dX4_allowWater_22 (by decide) rfl (fun c22 => ?_) (fun c22 => ?_)
      · exact go (fun h => absurd h c22)
      · refine bq_aload_n (q := 26) G rfl dX4_allowWater_25 rfl ?_
        refine bq_getr (q := 29) G dX4_allowWater_26 rfl fl_X4_13 (by first | assumption | exact ⟨Nat.le_of_ble_eq_true rfl, rfl⟩) (fun _ _ _ => rfl) (rf_69_1 z) ?_
        refine bq_iload_n (q := 30) G rfl dX4_allowWater_29 rfl ?_
        refine bq_iald (q := 31) (b := k) G dX4_allowWater_30 rfl (by first | assumption | exact ⟨Nat.le_of_ble_eq_true rfl, rfl⟩) rfl (by omega) (by decide) ?_
        refine bq_iload_n (q := 32) G rfl dX4_allowWater_31 rfl ?_
        refine bq_icmp_eq (t := 37) (q := 35) G dX4_allowWater_32 (by decide) rfl (fun c32 => ?_) (fun c32 => ?_)
        · exact go (fun _ => c32)
        · refine bq_iconst (q := 36) (v := 0) G (by decide) dX4_allowWater_35 rfl ?_
          exact hret _ _ _ _ _ dX4_allowWater_36 ⟨Or.inr ⟨rfl, fun h => c32 (h k hk8 c22)⟩, rfl, rfl⟩
    · have hk9 : k = q := by omega
      subst hk9
      refine bq_iload_n (q := 3) G rfl dX4_allowWater_2 rfl ?_
      refine bq_aload_n (q := 4) G rfl dX4_allowWater_3 rfl ?_
      refine bq_geti (q := 7) G dX4_allowWater_4 rfl fl_X4_16 (by first | assumption | exact ⟨Nat.le_of_ble_eq_true rfl, rfl⟩) rfl ?_
      refine bq_icmp_ge_t (t := 43) G dX4_allowWater_7 (by decide) (by rw [hq]; exact nI_le (a := k) (b := k) (by omega) (by omega)) ?_
      refine bq_iconst (q := 44) (v := 1) G (by decide) dX4_allowWater_43 rfl ?_
      exact hret _ _ _ _ _ dX4_allowWater_44 ⟨Or.inl ⟨rfl, hb⟩, rfl, rfl⟩
  refine bq_iconst (q := 1) (v := 0) G (by decide) dX4_allowWater_0 rfl ?_
  refine bq_istore_n (q := 2) (ls' := [_, _, _, _]) G dX4_allowWater_1 rfl (by decide) rfl rfl ?_
  exact loop 0 (by omega) (fun j hj => by omega)
set_option maxHeartbeats 1000000 in
set_option maxRecDepth 100000 in
theorem c_X8_isAsMeasured {z : Nat} {I : bq_IR} {L : bq_LR} {q : Nat} {M : Nat → Int32} {T S : Nat → Int32} (h4 : I 6 4 = T 4) (h2 : I 6 2 = T 2) (hM : bq_MC I 21 S) (hS : gs_Ok S) (hd : 0 ≤ T 2) (hq : I 69 2 = nI q) (hq4 : q ≤ 4) (hm : ∀ i, i < q → I 70 i = M (2 * i) ∧ I 71 i = M (2 * i + 1)) : bq_FI MX8_isAsMeasured z [.ref (z + 0)] 85 (bq_Rf z) I L (fun r J L' => ((r = 1 ∧ gs_so M q (T 4) (T 2) (T 1) S 41) ∨ (r = 0 ∧ ¬ gs_so M q (T 4) (T 2) (T 1) S 41)) ∧ gs_cK I J ∧ L' = L) := by
  refine bq_FIof [some (.ref (z + 0)), none, none] rfl (Nat.le_of_ble_eq_true rfl) (by decide) rfl (fun _ _ _ h => by rcases h.1 with ⟨h, _⟩ | ⟨h, _⟩ <;> rw [h] <;> rfl) ?_
  intro A G hret
  have G : bq_Cx cX8_isAsMeasured RX8 3 z (bq_rm MX8_isAsMeasured 0 0) "isAsMeasured" A := G
  have al : ∀ (k : Nat) (J : bq_IR), gs_aI I (T 4) (T 2) (T 1) S k J → ((∀ j, j < q → J 70 j = nI k → J 71 j = J 21 1) ↔ ∀ i, i < q → M (2 * i) = nI k → M (2 * i + 1) = gs_it (T 4) (T 2) (T 1) S k 1) := by
    intro k J hJ
    have e : J 21 1 = gs_it (T 4) (T 2) (T 1) S k 1 := hJ.1.1
    rw [hJ.2 70 (by decide), hJ.2 71 (by decide), e]
    constructor
    · intro h i hi
      rw [← (hm i hi).1, ← (hm i hi).2]; exact h i hi
    · intro h i hi
      rw [(hm i hi).1, (hm i hi).2]; exact h i hi
  have loop : ∀ κ, κ ≤ 40 → ∀ (J : bq_IR) (v : Int32), gs_aI I (T 4) (T 2) (T 1) S κ J → ((v = 1 ∧ gs_so M q (T 4) (T 2) (T 1) S (κ + 1)) ∨ (v = 0 ∧ ¬ gs_so M q (T 4) (T 2) (T 1) S 41)) → A 0 0 18 [some (.ref (z + 0)), some (.int v), some (.int (nI (κ + 1)))] [] 85 (bq_Rf z) J L := by
    refine bq_down 40 ?_
    intro κ hκ ih J v hJ hv
    rcases Nat.lt_or_ge κ 40 with hk8 | hk8
    · rcases hv with ⟨rfl, hso⟩ | ⟨rfl, hno⟩
      · have q4 : J (5 + 1) 4 = T 4 := (congrFun (hJ.2 6 (by decide)) 4).trans h4
        have q2 : J (5 + 1) 2 = T 2 := (congrFun (hJ.2 6 (by decide)) 2).trans h2
        refine bq_iload_n (q := 19) G rfl dX8_isAsMeasured_18 rfl ?_
        refine bq_bipush (q := 21) (v := 40) G (by decide) dX8_isAsMeasured_19 rfl ?_
        refine bq_icmp_gt_f (q := 24) (t := 71) G dX8_isAsMeasured_21 rfl (by decide) (nI_nlt (a := 40) (b := κ + 1) (by omega) (by decide)) ?_
        refine bq_iload_n (q := 25) G rfl dX8_isAsMeasured_24 rfl ?_
        refine bq_if_eq_f (q := 28) (t := 71) G dX8_isAsMeasured_25 rfl (by decide) (by decide) ?_
        refine bq_aload_n (q := 29) G rfl dX8_isAsMeasured_28 rfl ?_
        refine bq_getr (q := 32) G dX8_isAsMeasured_29 rfl fl_X8_40 (by first | assumption | exact ⟨Nat.le_of_ble_eq_true rfl, rfl⟩) (fun _ _ _ => rfl) (rf_0_5 z) ?_
        refine bq_aload_n (q := 33) G rfl dX8_isAsMeasured_32 rfl ?_
        refine bq_getr (q := 36) G dX8_isAsMeasured_33 rfl fl_X8_26 (by first | assumption | exact ⟨Nat.le_of_ble_eq_true rfl, rfl⟩) (fun _ _ _ => rfl) (rf_0_2 z) ?_
        refine bq_callv (q := 39) G dX8_isAsMeasured_36 rfl cl_X8_151 (c_X0_stairWidth (bq_Ce5 z)) rfl (by first | assumption | exact ⟨Nat.le_of_ble_eq_true rfl, rfl⟩) rfl ⟨Nat.le_of_ble_eq_true rfl, Nat.le_of_ble_eq_true rfl⟩ (Nat.le_of_ble_eq_true rfl) ⟨Nat.le_of_ble_eq_true rfl, Nat.le_of_ble_eq_true rfl⟩ rfl ?_
        refine bq_aload_n (q := 40) G rfl dX8_isAsMeasured_39 rfl ?_
        refine bq_getr (q := 43) G dX8_isAsMeasured_40 rfl fl_X8_26 (by first | assumption | exact ⟨Nat.le_of_ble_eq_true rfl, rfl⟩) (fun _ _ _ => rfl) (rf_0_2 z) ?_
        refine bq_callv (q := 46) G dX8_isAsMeasured_43 rfl cl_X8_155 (c_X0_drainCups (bq_Ce5 z)) rfl (by first | assumption | exact ⟨Nat.le_of_ble_eq_true rfl, rfl⟩) rfl ⟨Nat.le_of_ble_eq_true rfl, Nat.le_of_ble_eq_true rfl⟩ (Nat.le_of_ble_eq_true rfl) ⟨Nat.le_of_ble_eq_true rfl, Nat.le_of_ble_eq_true rfl⟩ rfl ?_
        refine bq_callvV (q := 49) G dX8_isAsMeasured_46 rfl cl_X8_158 (c_X5_pass (bq_Mo21 z) hJ.1 (hS.it hd κ)) rfl (by first | assumption | exact ⟨Nat.le_of_ble_eq_true rfl, rfl⟩) rfl ⟨Nat.le_of_ble_eq_true rfl, Nat.le_of_ble_eq_true rfl⟩ (Nat.le_of_ble_eq_true rfl) ⟨Nat.le_of_ble_eq_true rfl, Nat.le_of_ble_eq_true rfl⟩ (fun I46 L46 h46 => ?_)
        obtain ⟨⟨g1, _⟩, g2, rfl⟩ := h46
        rw [q4, q2] at g1
        have hJ1 := hJ.go g1 g2
        have a1 := al (κ + 1) _ hJ1
        refine bq_aload_n (q := 50) G rfl dX8_isAsMeasured_49 rfl ?_
        refine bq_getr (q := 53) G dX8_isAsMeasured_50 rfl fl_X8_61 (by first | assumption | exact ⟨Nat.le_of_ble_eq_true rfl, rfl⟩) (fun _ _ _ => rfl) (rf_0_9 z) ?_
        refine bq_iload_n (q := 54) G rfl dX8_isAsMeasured_53 rfl ?_
        refine bq_aload_n (q := 55) G rfl dX8_isAsMeasured_54 rfl ?_
        refine bq_getr (q := 58) G dX8_isAsMeasured_55 rfl fl_X8_40 (by first | assumption | exact ⟨Nat.le_of_ble_eq_true rfl, rfl⟩) (fun _ _ _ => rfl) (rf_0_5 z) ?_
        refine bq_geti (q := 61) G dX8_isAsMeasured_58 rfl fl_X8_138 (by first | assumption | exact ⟨Nat.le_of_ble_eq_true rfl, rfl⟩) rfl ?_
        refine bq_callvI (q := 64) G dX8_isAsMeasured_61 rfl cl_X8_238 (c_X4_allowWater (q := q) (by rw [hJ1.2 69 (by decide)]; exact hq) hq4) rfl (by first | assumption | exact ⟨Nat.le_of_ble_eq_true rfl, rfl⟩) rfl ⟨Nat.le_of_ble_eq_true rfl, Nat.le_of_ble_eq_true rfl⟩ (Nat.le_of_ble_eq_true rfl) ⟨Nat.le_of_ble_eq_true rfl, Nat.le_of_ble_eq_true rfl⟩ (fun r61 I61 L61 h61 => ?_)
        obtain ⟨hr, rfl, rfl⟩ := h61
        refine bq_istore_n (q := 65) (ls' := [_, _, _]) G dX8_isAsMeasured_64 rfl (by decide) rfl rfl ?_
        refine bq_iinc (q := 68) (ls' := [_, _, _]) G dX8_isAsMeasured_65 rfl rfl (by first | exact nI_1 _ | exact pk_m1 _ | rfl) (by decide) rfl rfl ?_
        refine bq_goto (q := 18) G dX8_isAsMeasured_68 (by decide) ?_
        refine ih hk8 _ _ hJ1 ?_
        rcases hr with ⟨rfl, hr⟩ | ⟨rfl, hr⟩
        · exact Or.inl ⟨rfl, gs_so_s.mpr ⟨hso, a1.mp hr⟩⟩
        · exact Or.inr ⟨rfl, fun h => hr (a1.mpr (gs_so_s.mp (gs_so_le h (by omega : κ + 1 + 1 ≤ 41))).2)⟩
      · refine bq_iload_n (q := 19) G rfl dX8_isAsMeasured_18 rfl ?_
        refine bq_bipush (q := 21) (v := 40) G (by decide) dX8_isAsMeasured_19 rfl ?_
        refine bq_icmp_gt_f (q := 24) (t := 71) G dX8_isAsMeasured_21 rfl (by decide) (nI_nlt (a := 40) (b := κ + 1) (by omega) (by decide)) ?_
        refine bq_iload_n (q := 25) G rfl dX8_isAsMeasured_24 rfl ?_
        refine bq_if_eq_t (t := 71) G dX8_isAsMeasured_25 (by decide) rfl ?_
        refine bq_iload_n (q := 72) G rfl dX8_isAsMeasured_71 rfl ?_
        exact hret _ _ _ _ _ dX8_isAsMeasured_72 ⟨Or.inr ⟨rfl, hno⟩, hJ.2, rfl⟩
    · have hk9 : κ = 40 := by omega
      subst hk9
      refine bq_iload_n (q := 19) G rfl dX8_isAsMeasured_18 rfl ?_
      refine bq_bipush (q := 21) (v := 40) G (by decide) dX8_isAsMeasured_19 rfl ?_
      refine bq_icmp_gt_t (t := 71) G dX8_isAsMeasured_21 (by decide) (nI_lt (a := 40) (b := 41) (by omega) (by omega)) ?_
      refine bq_iload_n (q := 72) G rfl dX8_isAsMeasured_71 rfl ?_
      exact hret _ _ _ _ _ dX8_isAsMeasured_72 ⟨hv, hJ.2, rfl⟩
  have hJ0 : gs_aI I (T 4) (T 2) (T 1) S 0 I := ⟨hM, gs_cK.refl I⟩
  have a0 := al 0 I hJ0
  refine bq_aload_n (q := 1) G rfl dX8_isAsMeasured_0 rfl ?_
  refine bq_getr (q := 4) G dX8_isAsMeasured_1 rfl fl_X8_61 (by first | assumption | exact ⟨Nat.le_of_ble_eq_true rfl, rfl⟩) (fun _ _ _ => rfl) (rf_0_9 z) ?_
  refine bq_iconst (q := 5) (v := 0) G (by decide) dX8_isAsMeasured_4 rfl ?_
  refine bq_aload_n (q := 6) G rfl dX8_isAsMeasured_5 rfl ?_
  refine bq_getr (q := 9) G dX8_isAsMeasured_6 rfl fl_X8_40 (by first | assumption | exact ⟨Nat.le_of_ble_eq_true rfl, rfl⟩) (fun _ _ _ => rfl) (rf_0_5 z) ?_
  refine bq_geti (q := 12) G dX8_isAsMeasured_9 rfl fl_X8_138 (by first | assumption | exact ⟨Nat.le_of_ble_eq_true rfl, rfl⟩) rfl ?_
  refine bq_callvI (q := 15) G dX8_isAsMeasured_12 rfl cl_X8_238 (c_X4_allowWater (q := q) hq hq4) rfl (by first | assumption | exact ⟨Nat.le_of_ble_eq_true rfl, rfl⟩) rfl ⟨Nat.le_of_ble_eq_true rfl, Nat.le_of_ble_eq_true rfl⟩ (Nat.le_of_ble_eq_true rfl) ⟨Nat.le_of_ble_eq_true rfl, Nat.le_of_ble_eq_true rfl⟩ (fun r12 I12 L12 h12 => ?_)
  obtain ⟨hr, rfl, rfl⟩ := h12
  refine bq_istore_n (q := 16) (ls' := [_, _, _]) G dX8_isAsMeasured_15 rfl (by decide) rfl rfl ?_
  refine bq_iconst (q := 17) (v := 1) G (by decide) dX8_isAsMeasured_16 rfl ?_
  refine bq_istore_n (q := 18) (ls' := [_, _, _]) G dX8_isAsMeasured_17 rfl (by decide) rfl rfl ?_
  refine loop 0 (by omega) _ _ hJ0 ?_
  rcases hr with ⟨rfl, hr⟩ | ⟨rfl, hr⟩
  · exact Or.inl ⟨rfl, gs_so_s.mpr ⟨fun k hk => absurd hk (by omega), a0.mp hr⟩⟩
  · exact Or.inr ⟨rfl, fun h => hr (a0.mpr (gs_so_s.mp (gs_so_le h (by omega : 0 + 1 ≤ 41))).2)⟩
set_option maxHeartbeats 1000000 in
set_option maxRecDepth 100000 in
theorem c_X8_splitFirst {z : Nat} {I : bq_IR} {L : bq_LR} {q m : Nat} {M T B : Nat → Int32} (h4 : I 6 4 = T 4) (h2 : I 6 2 = T 2) (hB : bq_MC I 7 B) (hOk : gs_Ok B) (hd : 0 ≤ T 2) (hm8 : m ≤ 8) (hth : ∀ b, b < 8 → B (51 + b) = if b < m then 1 else 0) (hq : I 69 2 = nI q) (hq4 : q ≤ 4) (hm : ∀ i, i < q → I 70 i = M (2 * i) ∧ I 71 i = M (2 * i + 1)) : bq_FI MX8_splitFirst z [.ref (z + 0)] 85 (bq_Rf z) I L (fun r J L' => gs_sf M q T B m r ∧ gs_cK I J ∧ L' = L) := by
  refine bq_FIof [some (.ref (z + 0)), none, none] rfl (Nat.le_of_ble_eq_true rfl) (by decide) rfl (fun _ _ _ _ => rfl) ?_
  intro A G hret
  have G : bq_Cx cX8_splitFirst RX8 3 z (bq_rm MX8_splitFirst 0 0) "splitFirst" A := G
  have loop : ∀ b, b ≤ 8 → ∀ (x : Int32) (J : bq_IR), gs_sf M q T B (min b m) x → gs_cK I J → A 0 0 31 [some (.ref (z + 0)), some (.int x), some (.int (nI b))] [] 85 (bq_Rf z) J L := by
    refine bq_down 8 ?_
    intro b hb ih x J hx hJ
    rcases Nat.lt_or_ge b 8 with hb8 | hb8
    · have ih := ih hb8
      have hBJ : bq_MC J 7 B := hB.same (hJ 7 (by decide)) (hJ 8 (by decide)) (hJ 9 (by decide)) (hJ 10 (by decide))
      refine bq_iload_n (q := 32) G rfl dX8_splitFirst_31 rfl ?_
      refine bq_bipush (q := 34) (v := 8) G (by decide) dX8_splitFirst_32 rfl ?_
      refine bq_icmp_ge_f (q := 37) (t := 94) G dX8_splitFirst_34 rfl (by decide) (nI_ge (a := b) (b := 8) hb8 (by decide)) ?_
      refine bq_aload_n (q := 38) G rfl dX8_splitFirst_37 rfl ?_
      refine bq_getr (q := 41) G dX8_splitFirst_38 rfl fl_X8_40 (by first | assumption | exact ⟨Nat.le_of_ble_eq_true rfl, rfl⟩) (fun _ _ _ => rfl) (rf_0_5 z) ?_
      refine bq_aload_n (q := 42) G rfl dX8_splitFirst_41 rfl ?_
      refine bq_getr (q := 45) G dX8_splitFirst_42 rfl fl_X8_26 (by first | assumption | exact ⟨Nat.le_of_ble_eq_true rfl, rfl⟩) (fun _ _ _ => rfl) (rf_0_2 z) ?_
      refine bq_getr (q := 48) G dX8_splitFirst_45 rfl fl_X8_99 (by first | assumption | exact ⟨Nat.le_of_ble_eq_true rfl, rfl⟩) (fun _ _ _ => rfl) (by first | assumption | rfl) ?_
      refine bq_callvV (q := 51) G dX8_splitFirst_48 rfl cl_X8_102 (c_X5_copyFrom (a := 21) (o := 7) (bq_Mo21 z) (bq_Mo7 z) (by decide) hBJ) rfl (by first | assumption | exact ⟨Nat.le_of_ble_eq_true rfl, rfl⟩) rfl ⟨Nat.le_of_ble_eq_true rfl, Nat.le_of_ble_eq_true rfl⟩ (Nat.le_of_ble_eq_true rfl) ⟨Nat.le_of_ble_eq_true rfl, Nat.le_of_ble_eq_true rfl⟩ (fun I48 L48 h48 => ?_)
      obtain ⟨⟨g1, _, _⟩, g2, rfl⟩ := h48
      have hK : gs_cK I I48 := hJ.trans g2
      refine bq_aload_n (q := 52) G rfl dX8_splitFirst_51 rfl ?_
      refine bq_getr (q := 55) G dX8_splitFirst_52 rfl fl_X8_40 (by first | assumption | exact ⟨Nat.le_of_ble_eq_true rfl, rfl⟩) (fun _ _ _ => rfl) (rf_0_5 z) ?_
      refine bq_iload_n (q := 56) G rfl dX8_splitFirst_55 rfl ?_
      refine bq_callv (q := 59) G dX8_splitFirst_56 rfl cl_X8_170 (c_X5_canSplit (bq_Mo21 z) g1 hb8) rfl (by first | assumption | exact ⟨Nat.le_of_ble_eq_true rfl, rfl⟩) rfl ⟨Nat.le_of_ble_eq_true rfl, Nat.le_of_ble_eq_true rfl⟩ (Nat.le_of_ble_eq_true rfl) ⟨Nat.le_of_ble_eq_true rfl, Nat.le_of_ble_eq_true rfl⟩ rfl ?_
      first | refine bq_ifb_eq (t := 88) (q := 62) G dX8_splitFirst_59 (by decide) rfl (fun c59 => ?_) (fun c59 => ?_) | refine bq_if_eq (t := 88) (q := 62) G dX8_splitFirst_59 (by decide) rfl (fun c59 => ?_) (fun c59 => ?_)
      · have hx2 : gs_sf M q T B (min (b + 1) m) x := by
          rcases Nat.lt_or_ge b m with h | h
          · rw [show min (b + 1) m = b + 1 by omega]
            rw [show min b m = b by omega] at hx
            have h51 : B (51 + b) = 1 := by rw [hth b hb8, if_pos h]
            exact ⟨x, hx, Or.inr ⟨fun hc => c59 ((gs_can hOk hb8 h51).mpr hc.1), rfl⟩⟩
          · rw [show min (b + 1) m = min b m by omega]; exact hx
        refine bq_iinc (q := 91) (ls' := [_, _, _]) G dX8_splitFirst_88 rfl rfl (by first | exact nI_1 _ | exact pk_m1 _ | rfl) (by decide) rfl rfl ?_
        refine bq_goto (q := 31) G dX8_splitFirst_91 (by decide) ?_
        exact ih x _ hx2 hK
      · have hbm : b < m := by
          rcases Nat.lt_or_ge b m with h | h
          · exact h
          · have h0 := c59.1
            rw [hth b hb8, if_neg (by omega)] at h0
            exact absurd h0 (by decide)
        have h51 := c59.1
        have hcan := (gs_can hOk hb8 h51).mp c59
        rw [show min b m = b by omega] at hx
        rw [show min (b + 1) m = b + 1 by omega] at ih
        refine bq_aload_n (q := 63) G rfl dX8_splitFirst_62 rfl ?_
        refine bq_getr (q := 66) G dX8_splitFirst_63 rfl fl_X8_40 (by first | assumption | exact ⟨Nat.le_of_ble_eq_true rfl, rfl⟩) (fun _ _ _ => rfl) (rf_0_5 z) ?_
        refine bq_iload_n (q := 67) G rfl dX8_splitFirst_66 rfl ?_
        refine bq_callvI (q := 70) G dX8_splitFirst_67 rfl cl_X8_173 (c_X5_split (bq_Mo21 z) g1 hb8 c59 ((hOk.2 b hb8).2.1 h51).1) rfl (by first | assumption | exact ⟨Nat.le_of_ble_eq_true rfl, rfl⟩) rfl ⟨Nat.le_of_ble_eq_true rfl, Nat.le_of_ble_eq_true rfl⟩ (Nat.le_of_ble_eq_true rfl) ⟨Nat.le_of_ble_eq_true rfl, Nat.le_of_ble_eq_true rfl⟩ (fun r67 I67 L67 h67 => ?_)
        refine bq_pop (q := 71) G rfl dX8_splitFirst_70 rfl ?_
        obtain ⟨rfl, ⟨g3, _⟩, g4, rfl⟩ := h67
        have hK2 : gs_cK I I67 := hK.trans g4
        refine bq_iload_n (q := 72) G rfl dX8_splitFirst_71 rfl ?_
        refine bq_aload_n (q := 73) G rfl dX8_splitFirst_72 rfl ?_
        refine bq_callvI (q := 76) G dX8_splitFirst_73 rfl cl_X8_234 (c_X8_isAsMeasured (T := T) (S := gs_sp b B) (M := M) (q := q) ((congrFun (hK2 6 (by decide)) 4).trans h4) ((congrFun (hK2 6 (by decide)) 2).trans h2) g3 (hOk.sp hb8 h51 hcan) hd ((congrFun (hK2 69 (by decide)) 2).trans hq) hq4 (fun i hi => by rw [hK2 70 (by decide), hK2 71 (by decide)]; exact hm i hi)) rfl (by first | assumption | exact ⟨Nat.le_of_ble_eq_true rfl, rfl⟩) rfl ⟨Nat.le_of_ble_eq_true rfl, Nat.le_of_ble_eq_true rfl⟩ (Nat.le_of_ble_eq_true rfl) ⟨Nat.le_of_ble_eq_true rfl, Nat.le_of_ble_eq_true rfl⟩ (fun r73 I73 L73 h73 => ?_)
        obtain ⟨hr, g5, rfl⟩ := h73
        rcases hr with ⟨rfl, hr⟩ | ⟨rfl, hr⟩
        · refine bq_if_eq_f (q := 79) (t := 85) G dX8_splitFirst_76 rfl (by decide) (by decide) ?_
          refine bq_iconst (q := 80) (v := 1) G (by decide) dX8_splitFirst_79 rfl ?_
          refine bq_iload_n (q := 81) G rfl dX8_splitFirst_80 rfl ?_
          refine bq_ishl (q := 82) G dX8_splitFirst_81 rfl ?_
          refine bq_goto (q := 86) G dX8_splitFirst_82 (by decide) ?_
          refine bq_ior (q := 87) G dX8_splitFirst_86 rfl ?_
          refine bq_istore_n (q := 88) (ls' := [_, _, _]) G dX8_splitFirst_87 rfl (by decide) rfl rfl ?_
          refine bq_iinc (q := 91) (ls' := [_, _, _]) G dX8_splitFirst_88 rfl rfl (by first | exact nI_1 _ | exact pk_m1 _ | rfl) (by decide) rfl rfl ?_
          refine bq_goto (q := 31) G dX8_splitFirst_91 (by decide) ?_
          exact ih _ _ ⟨x, hx, Or.inl ⟨hcan, hr, rfl⟩⟩ (hK2.trans g5)
        · refine bq_if_eq_t (t := 85) G dX8_splitFirst_76 (by decide) rfl ?_
          refine bq_iconst (q := 86) (v := 0) G (by decide) dX8_splitFirst_85 rfl ?_
          refine bq_ior (q := 87) G dX8_splitFirst_86 rfl ?_
          refine bq_top (congrArg Value.int (Int32.or_zero)) ?_
          refine bq_istore_n (q := 88) (ls' := [_, _, _]) G dX8_splitFirst_87 rfl (by decide) rfl rfl ?_
          refine bq_iinc (q := 91) (ls' := [_, _, _]) G dX8_splitFirst_88 rfl rfl (by first | exact nI_1 _ | exact pk_m1 _ | rfl) (by decide) rfl rfl ?_
          refine bq_goto (q := 31) G dX8_splitFirst_91 (by decide) ?_
          exact ih _ _ ⟨x, hx, Or.inr ⟨fun h => hr h.2, rfl⟩⟩ (hK2.trans g5)
    · have hb9 : b = 8 := by omega
      subst hb9
      rw [show min 8 m = m by omega] at hx
      refine bq_iload_n (q := 32) G rfl dX8_splitFirst_31 rfl ?_
      refine bq_bipush (q := 34) (v := 8) G (by decide) dX8_splitFirst_32 rfl ?_
      refine bq_icmp_ge_t (t := 94) G dX8_splitFirst_34 (by decide) (nI_le (a := 8) (b := 8) (by omega) (by decide)) ?_
      refine bq_iload_n (q := 95) G rfl dX8_splitFirst_94 rfl ?_
      exact hret _ _ _ _ _ dX8_splitFirst_95 ⟨hx, hJ, rfl⟩
  refine bq_aload_n (q := 1) G rfl dX8_splitFirst_0 rfl ?_
  refine bq_getr (q := 4) G dX8_splitFirst_1 rfl fl_X8_40 (by first | assumption | exact ⟨Nat.le_of_ble_eq_true rfl, rfl⟩) (fun _ _ _ => rfl) (rf_0_5 z) ?_
  refine bq_aload_n (q := 5) G rfl dX8_splitFirst_4 rfl ?_
  refine bq_getr (q := 8) G dX8_splitFirst_5 rfl fl_X8_26 (by first | assumption | exact ⟨Nat.le_of_ble_eq_true rfl, rfl⟩) (fun _ _ _ => rfl) (rf_0_2 z) ?_
  refine bq_getr (q := 11) G dX8_splitFirst_8 rfl fl_X8_99 (by first | assumption | exact ⟨Nat.le_of_ble_eq_true rfl, rfl⟩) (fun _ _ _ => rfl) (by first | assumption | rfl) ?_
  refine bq_callvV (q := 14) G dX8_splitFirst_11 rfl cl_X8_102 (c_X5_copyFrom (a := 21) (o := 7) (bq_Mo21 z) (bq_Mo7 z) (by decide) hB) rfl (by first | assumption | exact ⟨Nat.le_of_ble_eq_true rfl, rfl⟩) rfl ⟨Nat.le_of_ble_eq_true rfl, Nat.le_of_ble_eq_true rfl⟩ (Nat.le_of_ble_eq_true rfl) ⟨Nat.le_of_ble_eq_true rfl, Nat.le_of_ble_eq_true rfl⟩ (fun I11 L11 h11 => ?_)
  obtain ⟨⟨g1, _, _⟩, g2, rfl⟩ := h11
  have hK : gs_cK I I11 := g2
  refine bq_aload_n (q := 15) G rfl dX8_splitFirst_14 rfl ?_
  refine bq_callvI (q := 18) G dX8_splitFirst_15 rfl cl_X8_234 (c_X8_isAsMeasured (T := T) (S := B) (M := M) (q := q) ((congrFun (hK 6 (by decide)) 4).trans h4) ((congrFun (hK 6 (by decide)) 2).trans h2) g1 hOk hd ((congrFun (hK 69 (by decide)) 2).trans hq) hq4 (fun i hi => by rw [hK 70 (by decide), hK 71 (by decide)]; exact hm i hi)) rfl (by first | assumption | exact ⟨Nat.le_of_ble_eq_true rfl, rfl⟩) rfl ⟨Nat.le_of_ble_eq_true rfl, Nat.le_of_ble_eq_true rfl⟩ (Nat.le_of_ble_eq_true rfl) ⟨Nat.le_of_ble_eq_true rfl, Nat.le_of_ble_eq_true rfl⟩ (fun r15 I15 L15 h15 => ?_)
  obtain ⟨hr, g5, rfl⟩ := h15
  rcases hr with ⟨rfl, hr⟩ | ⟨rfl, hr⟩
  · refine bq_if_eq_f (q := 21) (t := 27) G dX8_splitFirst_18 rfl (by decide) (by decide) ?_
    refine bq_sipush (q := 24) (v := 256) G (by decide) dX8_splitFirst_21 rfl ?_
    refine bq_goto (q := 28) G dX8_splitFirst_24 (by decide) ?_
    refine bq_istore_n (q := 29) (ls' := [_, _, _]) G dX8_splitFirst_28 rfl (by decide) rfl rfl ?_
    refine bq_iconst (q := 30) (v := 0) G (by decide) dX8_splitFirst_29 rfl ?_
    refine bq_istore_n (q := 31) (ls' := [_, _, _]) G dX8_splitFirst_30 rfl (by decide) rfl rfl ?_
    exact loop 0 (by omega) _ _ (by rw [Nat.zero_min]; exact Or.inl ⟨hr, rfl⟩) (hK.trans g5)
  · refine bq_if_eq_t (t := 27) G dX8_splitFirst_18 (by decide) rfl ?_
    refine bq_iconst (q := 28) (v := 0) G (by decide) dX8_splitFirst_27 rfl ?_
    refine bq_istore_n (q := 29) (ls' := [_, _, _]) G dX8_splitFirst_28 rfl (by decide) rfl rfl ?_
    refine bq_iconst (q := 30) (v := 0) G (by decide) dX8_splitFirst_29 rfl ?_
    refine bq_istore_n (q := 31) (ls' := [_, _, _]) G dX8_splitFirst_30 rfl (by decide) rfl rfl ?_
    exact loop 0 (by omega) _ _ (by rw [Nat.zero_min]; exact Or.inr ⟨hr, rfl⟩) (hK.trans g5)
