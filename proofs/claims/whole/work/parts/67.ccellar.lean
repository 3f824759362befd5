/-! cellar(), by the class -/
theorem rd_num_l {t : Nat} {f : Nat → Int32} {pl : Nat} {lo hi : Int32} {k : Nat} {D : Nat → Int32} {s : Nat} (hk : k ≤ t) (h : rd_num t f pl lo hi k D = .inl s) : s ≤ t := by
  by_cases hv : tk_S t f k = 2 ∧ lo ≤ tk_V t f k ∧ tk_V t f k ≤ hi
  · rw [rd_num_y hv] at h; cases h
  · rw [rd_num_n hv] at h; cases h; exact (tk_B_in hk).2
theorem rd_num_k {t : Nat} {f : Nat → Int32} {pl : Nat} {lo hi : Int32} {k : Nat} {D : Nat → Int32} {p : Nat × (Nat → Int32)} (hk : k ≤ t) (h : rd_num t f pl lo hi k D = .inr p) : p.1 ≤ t := by
  obtain ⟨rfl, -⟩ := rd_num_r h
  exact (tk_N_in hk).2.1
theorem rd_item_l {t : Nat} {f : Nat → Int32} {s0 : Nat} {so va : Int32} {k m s : Nat} {D : Nat → Int32} (hk : k ≤ t) (hs : s0 ≤ t) (h : rd_item t f s0 so va k m D = .inl s) : s ≤ t := by
  unfold rd_item at h
  split at h
  · cases h; exact hs
  · split at h
    · split at h
      · cases h; exact hs
      · cases h1 : rd_num t f (8 + m) 1 64 k D with
        | inl s1 => rw [h1] at h; cases h; exact rd_num_l hk h1
        | inr p1 =>
          rw [h1, rd_bind_inr] at h
          have k1 := rd_num_k hk h1
          cases h2 : rd_num t f (16 + m) 1 40 p1.1 p1.2 with
          | inl s1 => rw [h2] at h; cases h; exact rd_num_l k1 h2
          | inr p2 =>
            rw [h2, rd_bind_inr] at h
            have k2 := rd_num_k k1 h2
            cases h3 : rd_num t f (24 + m) 1 40 p2.1 p2.2 with
            | inl s1 => rw [h3] at h; cases h; exact rd_num_l k2 h3
            | inr p3 => rw [h3, rd_bind_inr] at h; cases h
    · split at h
      · cases h; exact hs
      · exact rd_num_l hk h
theorem rd_all_l {t : Nat} {f : Nat → Int32} {s : Nat} : ∀ (u k m : Nat) (D : Nat → Int32), k ≤ t → rd_ok D m → rd_all t f u k m D = .inl s → s ≤ t
  | 0, k, m, D, _, _, h => by cases h; exact Nat.zero_le t
  | u + 1, k, m, D, hk, hD, h => by
    rw [rd_all_s] at h
    by_cases h0 : tk_S t f k = 0
    · rw [if_pos h0] at h; cases h
    · rw [if_neg h0] at h
      have hN := (tk_N_in (f := f) hk).2.1
      cases hi : rd_item t f (tk_B t f k) (tk_S t f k) (tk_V t f k) (tk_N t f k) m D with
      | inl s1 =>
        rw [hi] at h
        cases h
        exact rd_item_l hN (tk_B_in hk).2 hi
      | inr p =>
        rw [hi] at h
        have h : (if tk_S t f p.1 = 3 then rd_all t f u (tk_N t f p.1) (if tk_it (tk_V t f k) = 5 then m + 1 else m) (upd p.2 6 (p.2 6 + 1)) else .inl (tk_B t f p.1)) = .inl s := h
        obtain ⟨⟨_, hp⟩, hok⟩ := rd_item_r hN hD hi
        by_cases h3 : tk_S t f p.1 = 3
        · rw [if_pos h3] at h
          exact rd_all_l u _ _ _ (tk_N_in hp).2.1 (hok.hi (Or.inl rfl) _) h
        · rw [if_neg h3] at h
          cases h
          exact (tk_B_in hp).2
def cd_B (D : Nat → Int32) (m : Nat) : Nat → Int32 := upd (upd (gs_bg D m (fun _ => 0)) 1 (D 0)) 2 (D 0 / D 1)
theorem gs_bg_lo {T S : Nat → Int32} {j : Nat} (hj : j < 3) : ∀ m, gs_bg T m S j = S j
  | 0 => rfl
  | m + 1 => by
    show upd (upd (upd (upd (gs_bg T m S) (3 + m) (T (8 + m))) (11 + m) (T (16 + m))) (19 + m) (T (24 + m))) (51 + m) 1 j = S j
    rw [pk_un (by omega), pk_un (by omega), pk_un (by omega), pk_un (by omega)]
    exact gs_bg_lo hj m
theorem gs_bg_b {T S S' : Nat → Int32} {j : Nat} (h : S j = S' j) : ∀ m, gs_bg T m S j = gs_bg T m S' j
  | 0 => h
  | m + 1 => by
    have ih := gs_bg_b (T := T) h m
    show upd (upd (upd (upd (gs_bg T m S) (3 + m) (T (8 + m))) (11 + m) (T (16 + m))) (19 + m) (T (24 + m))) (51 + m) 1 j = upd (upd (upd (upd (gs_bg T m S') (3 + m) (T (8 + m))) (11 + m) (T (16 + m))) (19 + m) (T (24 + m))) (51 + m) 1 j
    unfold upd
    split
    · rfl
    · split
      · rfl
      · split
        · rfl
        · split
          · rfl
          · exact ih
theorem cd_E.mr {K : bq_IR} {D : Nat → Int32} {m : Nat} (h : cd_E K D m) : gs_Mr K 13 (cd_B D m) := by
  obtain ⟨_, _, h3, h4, h5⟩ := h
  refine ⟨h3.row (fun j _ _ hj => pk_un hj), ?_, ?_⟩
  · unfold cd_B
    rw [pk_un (by decide), pk_un (by decide), gs_bg_lo (by decide)]; exact h4
  · unfold cd_B; rw [pk_us]; exact h5
/-- the model's beginning is the class's -/
theorem cd_beg {D T S : Nat → Int32} {m : Nat} (hT : ∀ j, j < 32 → T j = D j) (hm : m ≤ 8) : ∀ j, j < 59 → gs_beg T m S j = cd_B D m j := by
  intro j hj
  have hc : gs_bg T m (fun _ => 0) = gs_bg D m (fun _ => 0) := gs_bg_c m (fun b hb => ⟨hT _ (by omega), hT _ (by omega), hT _ (by omega)⟩)
  unfold gs_beg cd_B
  rcases (show j = 1 ∨ j = 2 ∨ (j ≠ 1 ∧ j ≠ 2) by omega) with rfl | rfl | ⟨h1, h2⟩
  · rw [gs_bg_lo (by decide), pk_un (by decide), pk_us, pk_un (by decide), pk_us, hT 0 (by decide)]
  · rw [gs_bg_lo (by decide), pk_us, pk_us, hT 0 (by decide), hT 1 (by decide)]
  · rw [pk_un h2, pk_un h1, ← hc]
    refine gs_bg_b ?_ m
    rw [pk_un h2, pk_un h1, gs_cp_lt hj]
def cl_E (I K : bq_IR) (D : Nat → Int32) (m : Nat) : Prop := ((∀ j, j < 5 → K 6 j = D j) ∧ K 5 2 = nI m ∧ gs_Mr K 7 (cd_B D m) ∧ gs_Mr K 17 (cd_B D m)) ∧ (K 1 = upd (I 1) 1 0 ∧ K 69 = upd (I 69) 2 0 ∧ K 25 = upd (I 25) 1 0 ∧ K 68 0 = 0 ∧ K 68 1 = 0) ∧ ∀ x, x ≠ 1 → (x < 3 ∨ 20 < x) → x ≠ 25 → x ≠ 68 → x ≠ 69 → K x = I x
set_option maxHeartbeats 1000000 in
set_option maxRecDepth 100000 in
theorem c_X8_cellar {z : Nat} {I : bq_IR} {L : bq_LR} {t : Nat} {G0 : Nat → Int32} (ht : I 1 1 = nI t) (ht2 : t ≤ 200) (hlet : ∀ j, 0 ≤ I 2 j ∧ I 2 j ≤ 255) : bq_FI MX8_cellar z [.ref (z + 0)] 85 (bq_Rf z) I L (fun r K L' => (match rd_all t (I 2) (t + 1) 0 0 (rd_D0 G0) with | .inl s => r = -10 - nI s ∧ cs_D I K | .inr D => r = D 6 ∧ ∃ m, rd_ok D m ∧ cl_E I K D m) ∧ L' = L) := by
  refine bq_FIof [some (.ref (z + 0)), none, none] rfl (Nat.le_of_ble_eq_true rfl) (by decide) rfl (fun _ _ _ _ => rfl) ?_
  intro A G hret
  have G : bq_Cx cX8_cellar RX8 3 z (bq_rm MX8_cellar 0 0) "cellar" A := G
  have hbnd := fun s => rd_all_l (t := t) (f := I 2) (s := s) (t + 1) 0 0 (rd_D0 G0) (by omega) (rd_ok0 G0)
  refine bq_aload_n (q := 1) G rfl dX8_cellar_0 rfl ?_
  refine bq_getr (q := 4) G dX8_cellar_1 rfl fl_X8_19 (by first | assumption | exact ⟨Nat.le_of_ble_eq_true rfl, rfl⟩) (fun _ _ _ => rfl) (rf_0_1 z) ?_
  refine bq_aload_n (q := 5) G rfl dX8_cellar_4 rfl ?_
  refine bq_getr (q := 8) G dX8_cellar_5 rfl fl_X8_10 (by first | assumption | exact ⟨Nat.le_of_ble_eq_true rfl, rfl⟩) (fun _ _ _ => rfl) (rf_0_0 z) ?_
  refine bq_aload_n (q := 9) G rfl dX8_cellar_8 rfl ?_
  refine bq_getr (q := 12) G dX8_cellar_9 rfl fl_X8_30 (by first | assumption | exact ⟨Nat.le_of_ble_eq_true rfl, rfl⟩) (fun _ _ _ => rfl) (rf_0_3 z) ?_
  refine bq_callvI (q := 15) G dX8_cellar_12 rfl cl_X8_91 (c_X7_read (t := t) (G0 := G0) ht ht2 hlet) rfl (by first | assumption | exact ⟨Nat.le_of_ble_eq_true rfl, rfl⟩) rfl ⟨Nat.le_of_ble_eq_true rfl, Nat.le_of_ble_eq_true rfl⟩ (Nat.le_of_ble_eq_true rfl) ⟨Nat.le_of_ble_eq_true rfl, Nat.le_of_ble_eq_true rfl⟩ (fun r12 I12 L12 h12 => ?_)
  obtain ⟨hP, hD, rfl⟩ := h12
  generalize rd_all t (I 2) (t + 1) 0 0 (rd_D0 G0) = X at hret hP hbnd
  cases X with
  | inl s =>
    have hs := hbnd s rfl
    have hr : r12 = -10 - nI s := hP
    have hneg : ¬ 0 ≤ r12 := by
      rw [hr, Int32.le_iff_toInt_le, gs_toInt_sub (by decide) (by decide) (by rw [nI_toInt (by omega)]; omega) (by rw [nI_toInt (by omega)]; omega), nI_toInt (by omega), show (-10 : Int32).toInt = -10 by decide, show (0 : Int32).toInt = 0 by decide]
      omega
    refine bq_istore_n (q := 16) (ls' := [_, _, _]) G dX8_cellar_15 rfl (by decide) rfl rfl ?_
    refine bq_iload_n (q := 17) G rfl dX8_cellar_16 rfl ?_
    refine bq_if_ge_f (q := 20) (t := 22) G dX8_cellar_17 rfl (by decide) hneg ?_
    refine bq_iload_n (q := 21) G rfl dX8_cellar_20 rfl ?_
    exact hret _ _ _ _ _ dX8_cellar_21 ⟨⟨hr, hD⟩, rfl⟩
  | inr D =>
    obtain ⟨hr, ⟨q, hq, hq6⟩, m, hok, hE⟩ := hP
    have hpos : 0 ≤ r12 := by rw [hr, hq6]; exact nI_pos' (by omega)
    have hMr := hE.mr
    refine bq_istore_n (q := 16) (ls' := [_, _, _]) G dX8_cellar_15 rfl (by decide) rfl rfl ?_
    refine bq_iload_n (q := 17) G rfl dX8_cellar_16 rfl ?_
    refine bq_if_ge_t (t := 22) G dX8_cellar_17 (by decide) hpos ?_
    refine bq_aload_n (q := 23) G rfl dX8_cellar_22 rfl ?_
    refine bq_getr (q := 26) G dX8_cellar_23 rfl fl_X8_26 (by first | assumption | exact ⟨Nat.le_of_ble_eq_true rfl, rfl⟩) (fun _ _ _ => rfl) (rf_0_2 z) ?_
    refine bq_aload_n (q := 27) G rfl dX8_cellar_26 rfl ?_
    refine bq_getr (q := 30) G dX8_cellar_27 rfl fl_X8_30 (by first | assumption | exact ⟨Nat.le_of_ble_eq_true rfl, rfl⟩) (fun _ _ _ => rfl) (rf_0_3 z) ?_
    refine bq_callvV (q := 33) G dX8_cellar_30 rfl cl_X8_95 (c_X0_copyFrom hMr) rfl (by first | assumption | exact ⟨Nat.le_of_ble_eq_true rfl, rfl⟩) rfl ⟨Nat.le_of_ble_eq_true rfl, Nat.le_of_ble_eq_true rfl⟩ (Nat.le_of_ble_eq_true rfl) ⟨Nat.le_of_ble_eq_true rfl, Nat.le_of_ble_eq_true rfl⟩ (fun I30 L30 h30 => ?_)
    obtain ⟨⟨g1, g2, g3, g4⟩, rfl⟩ := h30
    refine bq_aload_n (q := 34) G rfl dX8_cellar_33 rfl ?_
    refine bq_getr (q := 37) G dX8_cellar_34 rfl fl_X8_36 (by first | assumption | exact ⟨Nat.le_of_ble_eq_true rfl, rfl⟩) (fun _ _ _ => rfl) (rf_0_4 z) ?_
    refine bq_aload_n (q := 38) G rfl dX8_cellar_37 rfl ?_
    refine bq_getr (q := 41) G dX8_cellar_38 rfl fl_X8_26 (by first | assumption | exact ⟨Nat.le_of_ble_eq_true rfl, rfl⟩) (fun _ _ _ => rfl) (rf_0_2 z) ?_
    refine bq_getr (q := 44) G dX8_cellar_41 rfl fl_X8_99 (by first | assumption | exact ⟨Nat.le_of_ble_eq_true rfl, rfl⟩) (fun _ _ _ => rfl) (rf_5_1 z) ?_
    refine bq_callvV (q := 47) G dX8_cellar_44 rfl cl_X8_102 (c_X5_copyFrom (a := 17) (o := 7) (bq_Mo17 z) (bq_Mo7 z) (by decide) g3.1) rfl (by first | assumption | exact ⟨Nat.le_of_ble_eq_true rfl, rfl⟩) rfl ⟨Nat.le_of_ble_eq_true rfl, Nat.le_of_ble_eq_true rfl⟩ (Nat.le_of_ble_eq_true rfl) ⟨Nat.le_of_ble_eq_true rfl, Nat.le_of_ble_eq_true rfl⟩ (fun I44 L44 h44 => ?_)
    obtain ⟨⟨p1, p2, p3⟩, p4, rfl⟩ := h44
    have hx : ∀ x, x ≠ 3 → x ≠ 4 → (x < 5 ∨ 20 < x) → I44 x = I x := fun x a b c => by rw [p4 x (by omega), g4 x (by omega) (by omega) (by omega)]; exact hD x a b (by omega)
    refine bq_aload_n (q := 48) G rfl dX8_cellar_47 rfl ?_
    refine bq_getr (q := 51) G dX8_cellar_48 rfl fl_X8_10 (by first | assumption | exact ⟨Nat.le_of_ble_eq_true rfl, rfl⟩) (fun _ _ _ => rfl) (rf_0_0 z) ?_
    refine bq_iconst (q := 52) (v := 0) G (by decide) dX8_cellar_51 rfl ?_
    refine bq_puti (q := 55) G dX8_cellar_52 rfl fl_X8_87 (by first | assumption | exact ⟨Nat.le_of_ble_eq_true rfl, rfl⟩) rfl rfl ?_
    refine bq_aload_n (q := 56) G rfl dX8_cellar_55 rfl ?_
    refine bq_getr (q := 59) G dX8_cellar_56 rfl fl_X8_61 (by first | assumption | exact ⟨Nat.le_of_ble_eq_true rfl, rfl⟩) (fun _ _ _ => rfl) (rf_0_9 z) ?_
    refine bq_iconst (q := 60) (v := 0) G (by decide) dX8_cellar_59 rfl ?_
    refine bq_puti (q := 63) G dX8_cellar_60 rfl fl_X8_105 (by first | assumption | exact ⟨Nat.le_of_ble_eq_true rfl, rfl⟩) rfl rfl ?_
    refine bq_aload_n (q := 64) G rfl dX8_cellar_63 rfl ?_
    refine bq_getr (q := 67) G dX8_cellar_64 rfl fl_X8_46 (by first | assumption | exact ⟨Nat.le_of_ble_eq_true rfl, rfl⟩) (fun _ _ _ => rfl) (rf_0_6 z) ?_
    refine bq_iconst (q := 68) (v := 0) G (by decide) dX8_cellar_67 rfl ?_
    refine bq_puti (q := 71) G dX8_cellar_68 rfl fl_X8_108 (by first | assumption | exact ⟨Nat.le_of_ble_eq_true rfl, rfl⟩) rfl rfl ?_
    refine bq_iconst (q := 72) (v := 0) G (by decide) dX8_cellar_71 rfl ?_
    refine bq_istore_n (q := 73) (ls' := [_, _, _]) G dX8_cellar_72 rfl (by decide) rfl rfl ?_
    refine bq_nameI (P := fun K => (∀ x, 2 < x → x ≠ 69 → x ≠ 25 → K x = I44 x) ∧ K 0 = I44 0 ∧ K 2 = I44 2 ∧ K 1 = upd (I44 1) 1 0 ∧ K 69 = upd (I44 69) 2 0 ∧ K 25 = upd (I44 25) 1 0) ⟨fun x a b c => by rw [bq_sr_n c, bq_sr_n b, bq_sr_n (by omega)], by rw [bq_sr_n (by decide), bq_sr_n (by decide), bq_sr_n (by decide)], by rw [bq_sr_n (by decide), bq_sr_n (by decide), bq_sr_n (by decide)], by rw [bq_sr_n (by decide), bq_sr_n (by decide), bq_sr_s], ?_, ?_⟩ (fun K hK => ?_)
    · rw [bq_sr_n (by decide), bq_sr_s, bq_sr_n (by decide)]
    · rw [bq_sr_s, bq_sr_n (by decide), bq_sr_n (by decide)]
    · obtain ⟨k1, k2, k3, k4, k5, k6⟩ := hK
      have loop : ∀ i, i ≤ 2 → ∀ J : bq_IR, (∀ j, j < i → J 68 j = 0) → (∀ x, x ≠ 68 → J x = K x) → A 0 0 73 [some (.ref (z + 0)), some (.int r12), some (.int (nI i))] [] 85 (bq_Rf z) J L44 := by
        refine bq_down 2 ?_
        intro i hi ih J h0 hJ
        rcases Nat.lt_or_ge i 2 with hi8 | hi8
        · refine bq_iload_n (q := 74) G rfl dX8_cellar_73 rfl ?_
          refine bq_iconst (q := 75) (v := 2) G (by decide) dX8_cellar_74 rfl ?_
          refine bq_icmp_ge_f (q := 78) (t := 91) G dX8_cellar_75 rfl (by decide) (nI_ge (a := i) (b := 2) hi8 (by decide)) ?_
          refine bq_aload_n (q := 79) G rfl dX8_cellar_78 rfl ?_
          refine bq_getr (q := 82) G dX8_cellar_79 rfl fl_X8_54 (by first | assumption | exact ⟨Nat.le_of_ble_eq_true rfl, rfl⟩) (fun _ _ _ => rfl) (rf_0_8 z) ?_
          refine bq_iload_n (q := 83) G rfl dX8_cellar_82 rfl ?_
          refine bq_iconst (q := 84) (v := 0) G (by decide) dX8_cellar_83 rfl ?_
          refine bq_zast (q := 85) (b := i) G dX8_cellar_84 rfl (by first | assumption | exact ⟨Nat.le_of_ble_eq_true rfl, rfl⟩) rfl hi8 (by decide) ⟨rfl, rfl⟩ ?_
          refine bq_iinc (q := 88) (ls' := [_, _, _]) G dX8_cellar_85 rfl rfl (by first | exact nI_1 _ | exact pk_m1 _ | rfl) (by decide) rfl rfl ?_
          refine bq_goto (q := 73) G dX8_cellar_88 (by decide) ?_
          refine ih hi8 _ (fun j hj => ?_) (fun x hx => by rw [bq_sr_n hx]; exact hJ x hx)
          rw [bq_sru]
          by_cases e : j = i
          · rw [if_pos e]
          · rw [if_neg e]; exact h0 j (by omega)
        · have hi9 : i = 2 := by omega
          subst hi9
          refine bq_iload_n (q := 74) G rfl dX8_cellar_73 rfl ?_
          refine bq_iconst (q := 75) (v := 2) G (by decide) dX8_cellar_74 rfl ?_
          refine bq_icmp_ge_t (t := 91) G dX8_cellar_75 (by decide) (nI_le (a := 2) (b := 2) (by omega) (by decide)) ?_
          refine bq_iload_n (q := 92) G rfl dX8_cellar_91 rfl ?_
          refine hret _ _ _ _ _ dX8_cellar_92 ⟨⟨hr, m, hok, ⟨?_, ?_, ?_, ?_⟩, ⟨?_, ?_, ?_, h0 0 (by decide), h0 1 (by decide)⟩, ?_⟩, rfl⟩
          · intro j hj
            rw [hJ 6 (by decide), k1 6 (by decide) (by decide) (by decide), p4 6 (by decide), g1 j hj]; exact hE.1 j hj
          · rw [hJ 5 (by decide), k1 5 (by decide) (by decide) (by decide), p4 5 (by decide), g2]; exact hE.2.1
          · exact (g3.fr (J := I44) (fun x a b => p4 x (by omega))).fr (fun x a b => by rw [hJ x (by omega), k1 x (by omega) (by omega) (by omega)])
          · exact (gs_Mr.fr (I := I44) ⟨p1, p2.trans g3.2.1, p3.trans g3.2.2⟩ (fun x a b => by rw [hJ x (by omega), k1 x (by omega) (by omega) (by omega)]))
          · rw [hJ 1 (by decide), k4, hx 1 (by decide) (by decide) (by decide)]
          · rw [hJ 69 (by decide), k5, hx 69 (by decide) (by decide) (by decide)]
          · rw [hJ 25 (by decide), k6, hx 25 (by decide) (by decide) (by decide)]
          · intro x a b c d e
            rw [hJ x d]
            rcases (show x = 0 ∨ x = 2 ∨ 2 < x by omega) with rfl | rfl | h
            · rw [k2]; exact hx 0 (by decide) (by decide) (by decide)
            · rw [k3]; exact hx 2 (by decide) (by decide) (by decide)
            · rw [k1 x h e c]; exact hx x (by omega) (by omega) (by omega)
      exact loop 0 (by omega) K (fun j hj => by omega) (fun _ _ => rfl)
