/-! the class reads the whole text -/
abbrev rd_o (D : Nat → Int32) (i : Nat) : Nat → Int32 := upd D 7 (D 7 ||| (1 <<< (nI i &&& 31)))
theorem rd_item_n {t : Nat} {f : Nat → Int32} {s : Nat} {so va : Int32} {k m : Nat} {D : Nat → Int32} (h : ¬ so = 1 ∨ tk_it va < 0) : rd_item t f s so va k m D = .inl s := if_pos h
theorem rd_item_b {t : Nat} {f : Nat → Int32} {s : Nat} {va : Int32} {k m : Nat} {D : Nat → Int32} (h : tk_it va = 5) : rd_item t f s 1 va k m D = if m = 8 then .inl s else rd_bind (rd_num t f (8 + m) 1 64 k D) fun k1 D1 => rd_bind (rd_num t f (16 + m) 1 40 k1 D1) fun k2 D2 => rd_bind (rd_num t f (24 + m) 1 40 k2 D2) fun k3 D3 => .inr (k3, upd D3 5 (D3 5 + 1)) := by
  unfold rd_item
  rw [if_neg (fun hx : ¬ (1 : Int32) = 1 ∨ tk_it va < 0 => hx.elim (fun h => h rfl) (fun h2 => by rw [h] at h2; exact absurd h2 (by decide))), if_pos h]
theorem cf_lo : ∀ i, i < 5 → rd_lo (nI i) = cf_l i ∧ rd_hi (nI i) = cf_h i := by decide
theorem rd_item_s {t : Nat} {f : Nat → Int32} {s : Nat} {va : Int32} {k m i : Nat} {D : Nat → Int32} (hi : i < 5) (h : tk_it va = nI i) : rd_item t f s 1 va k m D = if D 7 >>> (nI i &&& 31) &&& 1 = 1 then .inl s else rd_num t f i (cf_l i) (cf_h i) k (upd D 7 (D 7 ||| (1 <<< (nI i &&& 31)))) := by
  have h5 : ¬ nI i = 5 := fun h => absurd ((nI_eq (b := 5) (by omega) (by decide)).mp h) (by omega)
  unfold rd_item
  rw [h, if_neg (fun hx : ¬ (1 : Int32) = 1 ∨ nI i < 0 => hx.elim (fun h => h rfl) (nI_pos (by omega))), if_neg h5, (cf_lo i hi).1, (cf_lo i hi).2, nI_clamp (by omega)]
theorem gs_bg_c {T T' S : Nat → Int32} : ∀ m, (∀ b, b < m → T' (8 + b) = T (8 + b) ∧ T' (16 + b) = T (16 + b) ∧ T' (24 + b) = T (24 + b)) → gs_bg T' m S = gs_bg T m S
  | 0, _ => rfl
  | m + 1, h => by
    have ih := gs_bg_c (T := T) (T' := T') (S := S) m (fun b hb => h b (by omega))
    obtain ⟨h1, h2, h3⟩ := h m (by omega)
    show upd (upd (upd (upd (gs_bg T' m S) (3 + m) (T' (8 + m))) (11 + m) (T' (16 + m))) (19 + m) (T' (24 + m))) (51 + m) 1 = upd (upd (upd (upd (gs_bg T m S) (3 + m) (T (8 + m))) (11 + m) (T (16 + m))) (19 + m) (T (24 + m))) (51 + m) 1
    rw [ih, h1, h2, h3]
/-- the draft of the class tells D -/
def cd_R (J : bq_IR) (D : Nat → Int32) (m : Nat) : Prop := ((∀ j, j < 5 → J 12 j = D j) ∧ J 11 2 = nI m ∧ bq_MC J 13 (gs_bg D m (fun _ => 0)) ∧ J 13 0 = 0 ∧ J 13 2 = 0) ∧ ∃ x y : Nat, x < 256 ∧ y < 256 ∧ J 3 5 = nI x ∧ D 7 = nI y ∧ ∀ i, i < 5 → x / 2 ^ i % 2 = y / 2 ^ i % 2
theorem cd_bit {J : bq_IR} {D : Nat → Int32} {m i : Nat} (h : cd_R J D m) (hi : i < 5) : J 3 5 >>> (nI i &&& 31) &&& 1 = D 7 >>> (nI i &&& 31) &&& 1 := by
  obtain ⟨x, y, hx, hy, e1, e2, hb⟩ := h.2
  rw [e1, e2, gs_t1 x hx i (by omega), gs_t1 y hy i (by omega), hb i hi]
theorem cd_set {J K : bq_IR} {D : Nat → Int32} {m i : Nat} {V w : Int32} (h : cd_R J D m) (hi : i < 5) (h12 : K 12 = upd (J 12) i V) (hx : ∀ x, x ≠ 3 → x ≠ 4 → x ≠ 12 → K x = J x) (h5 : K 3 5 = J 3 5 ||| (1 <<< (nI i &&& 31))) : cd_R K (upd (upd (upd D 7 (D 7 ||| (1 <<< (nI i &&& 31)))) i V) 6 w) m := by
  obtain ⟨⟨r1, r2, r3, r4, r5⟩, x, y, hx1, hy1, e1, e2, hb⟩ := h
  have hbg : gs_bg (upd (upd (upd D 7 (D 7 ||| (1 <<< (nI i &&& 31)))) i V) 6 w) m (fun _ => 0) = gs_bg D m (fun _ => 0) := gs_bg_c m (fun b hb => ⟨by rw [pk_un (by omega), pk_un (by omega), pk_un (by omega)], by rw [pk_un (by omega), pk_un (by omega), pk_un (by omega)], by rw [pk_un (by omega), pk_un (by omega), pk_un (by omega)]⟩)
  refine ⟨⟨?_, ?_, ?_, ?_, ?_⟩, x ||| 2 ^ i, y ||| 2 ^ i, (gs_t2 x hx1 i (by omega)).2, (gs_t2 y hy1 i (by omega)).2, ?_, ?_, ?_⟩
  · intro j hj
    rw [h12, pk_un (show j ≠ 6 by omega)]
    by_cases e : j = i
    · subst e; rw [pk_us, pk_us]
    · rw [pk_un e, pk_un e, pk_un (show j ≠ 7 by omega)]; exact r1 j hj
  · rw [hx 11 (by decide) (by decide) (by decide)]; exact r2
  · rw [hbg]; exact r3.same (hx _ (by decide) (by decide) (by decide)) (hx _ (by decide) (by decide) (by decide)) (hx _ (by decide) (by decide) (by decide)) (hx _ (by decide) (by decide) (by decide))
  · rw [hx 13 (by decide) (by decide) (by decide)]; exact r4
  · rw [hx 13 (by decide) (by decide) (by decide)]; exact r5
  · rw [h5, e1]; exact (gs_t2 x hx1 i (by omega)).1
  · rw [pk_un (show 7 ≠ 6 by decide), pk_un (show 7 ≠ i by omega), pk_us, e2]; exact (gs_t2 y hy1 i (by omega)).1
  · intro j hj
    rw [gs_u2 x hx1 i (by omega) j (by omega), gs_u2 y hy1 i (by omega) j (by omega), hb j hj]
theorem cd_brm {J K : bq_IR} {D : Nat → Int32} {m : Nat} {V1 V2 V3 v w : Int32} (h : cd_R J D m) (hm : m < 8) (h13 : bq_MC K 13 (upd (upd (upd (upd (gs_bg D m (fun _ => 0)) (3 + m) V1) (11 + m) V2) (19 + m) V3) (51 + m) 1)) (h0 : K 13 0 = J 13 0) (h2 : K 13 2 = J 13 2) (h11 : K 11 2 = nI (m + 1)) (h12 : K 12 = J 12) (h5 : K 3 5 = J 3 5 ||| (1 <<< (nI 5 &&& 31))) : cd_R K (upd (upd (upd (upd (upd D (8 + m) V1) (16 + m) V2) (24 + m) V3) 5 v) 6 w) (m + 1) := by
  obtain ⟨⟨r1, r2, r3, r4, r5⟩, x, y, hx1, hy1, e1, e2, hb⟩ := h
  have hbg : gs_bg (upd (upd (upd (upd (upd D (8 + m) V1) (16 + m) V2) (24 + m) V3) 5 v) 6 w) m (fun _ => 0) = gs_bg D m (fun _ => 0) := gs_bg_c m (fun b hb => ⟨by rw [pk_un (by omega), pk_un (by omega), pk_un (by omega), pk_un (by omega), pk_un (by omega)], by rw [pk_un (by omega), pk_un (by omega), pk_un (by omega), pk_un (by omega), pk_un (by omega)], by rw [pk_un (by omega), pk_un (by omega), pk_un (by omega), pk_un (by omega), pk_un (by omega)]⟩)
  have p8 : upd (upd (upd (upd (upd D (8 + m) V1) (16 + m) V2) (24 + m) V3) 5 v) 6 w (8 + m) = V1 := by rw [pk_un (by omega), pk_un (by omega), pk_un (by omega), pk_un (by omega), pk_us]
  have p16 : upd (upd (upd (upd (upd D (8 + m) V1) (16 + m) V2) (24 + m) V3) 5 v) 6 w (16 + m) = V2 := by rw [pk_un (by omega), pk_un (by omega), pk_un (by omega), pk_us]
  have p24 : upd (upd (upd (upd (upd D (8 + m) V1) (16 + m) V2) (24 + m) V3) 5 v) 6 w (24 + m) = V3 := by rw [pk_un (by omega), pk_un (by omega), pk_us]
  refine ⟨⟨?_, h11, ?_, h0.trans r4, h2.trans r5⟩, x ||| 2 ^ 5, y, (gs_t2 x hx1 5 (by omega)).2, hy1, ?_, ?_, ?_⟩
  · intro j hj
    rw [h12, pk_un (by omega), pk_un (by omega), pk_un (by omega), pk_un (by omega), pk_un (by omega)]; exact r1 j hj
  · show bq_MC K 13 (upd (upd (upd (upd (gs_bg (upd (upd (upd (upd (upd D (8 + m) V1) (16 + m) V2) (24 + m) V3) 5 v) 6 w) m (fun _ => 0)) (3 + m) (upd (upd (upd (upd (upd D (8 + m) V1) (16 + m) V2) (24 + m) V3) 5 v) 6 w (8 + m))) (11 + m) (upd (upd (upd (upd (upd D (8 + m) V1) (16 + m) V2) (24 + m) V3) 5 v) 6 w (16 + m))) (19 + m) (upd (upd (upd (upd (upd D (8 + m) V1) (16 + m) V2) (24 + m) V3) 5 v) 6 w (24 + m))) (51 + m) 1)
    rw [hbg, p8, p16, p24]; exact h13
  · rw [h5, e1]; exact (gs_t2 x hx1 5 (by omega)).1
  · rw [pk_un (by omega), pk_un (by omega), pk_un (by omega), pk_un (by omega), pk_un (by omega)]; exact e2
  · intro j hj
    rw [gs_u2 x hx1 5 (by omega) j (by omega), if_neg (by omega), hb j hj]
/-- what the class has told at the end -/
def cd_E (K : bq_IR) (D : Nat → Int32) (m : Nat) : Prop := (∀ j, j < 5 → K 12 j = D j) ∧ K 11 2 = nI m ∧ (bq_MC K 13 (upd (gs_bg D m (fun _ => 0)) 1 (D 0)) ∧ K 13 0 = 0 ∧ K 13 2 = D 0 / D 1)
theorem rd_bind3 {t : Nat} {f : Nat → Int32} {k m : Nat} {D : Nat → Int32} {p : Nat × (Nat → Int32)} (h : (rd_bind (rd_num t f (8 + m) 1 64 k D) fun k1 D1 => rd_bind (rd_num t f (16 + m) 1 40 k1 D1) fun k2 D2 => rd_bind (rd_num t f (24 + m) 1 40 k2 D2) fun k3 D3 => .inr (k3, upd D3 5 (D3 5 + 1))) = .inr p) : ∃ V1 V2 V3 v, p.2 = upd (upd (upd (upd D (8 + m) V1) (16 + m) V2) (24 + m) V3) 5 v := by
  obtain ⟨q1, h1, h⟩ := rd_bind_r h
  obtain ⟨q2, h2, h⟩ := rd_bind_r h
  obtain ⟨q3, h3, h⟩ := rd_bind_r h
  obtain ⟨e1, _⟩ := rd_num_r h1
  obtain ⟨e2, _⟩ := rd_num_r h2
  obtain ⟨e3, _⟩ := rd_num_r h3
  cases h
  subst e1
  subst e2
  subst e3
  exact ⟨_, _, _, _, rfl⟩
set_option maxHeartbeats 1000000 in
set_option maxRecDepth 100000 in
theorem c_X7_read {z : Nat} {I : bq_IR} {L : bq_LR} {t : Nat} {G0 : Nat → Int32} (ht : I 1 1 = nI t) (ht2 : t ≤ 200) (hlet : ∀ j, 0 ≤ I 2 j ∧ I 2 j ≤ 255) : bq_FI MX7_read z [.ref (z + 3), .ref (z + 1), .ref (z + 11)] 85 (bq_Rf z) I L (fun r K L' => (match rd_all t (I 2) (t + 1) 0 0 (rd_D0 G0) with | .inl s => r = -10 - nI s | .inr D => r = D 6 ∧ (∃ q : Nat, q ≤ 200 ∧ D 6 = nI q) ∧ ∃ m, rd_ok D m ∧ cd_E K D m) ∧ cs_D I K ∧ L' = L) := by
  refine bq_FIof [some (.ref (z + 3)), some (.ref (z + 1)), some (.ref (z + 11)), none, none, none] rfl (Nat.le_of_ble_eq_true rfl) (by decide) rfl (fun _ _ _ _ => rfl) ?_
  intro A G hret
  have G : bq_Cx cX7_read RX7 6 z (bq_rm MX7_read 0 0) "read" A := G
  generalize hXe : rd_all t (I 2) (t + 1) 0 0 (rd_D0 G0) = X at hret
  have fault : ∀ (s : Nat) (K : bq_IR) (l3 l4 l5 : Option Value), X = .inl s → K 3 2 = nI s → cs_D I K → A 0 0 90 [some (.ref (z + 3)), some (.ref (z + 1)), some (.ref (z + 11)), l3, l4, l5] [] 85 (bq_Rf z) K L := by
    intro s K l3 l4 l5 hX h2 hD
    subst hX
    refine bq_bipush (q := 92) (v := -10) G (by decide) dX7_read_90 rfl ?_
    refine bq_aload_n (q := 93) G rfl dX7_read_92 rfl ?_
    refine bq_geti (q := 96) G dX7_read_93 rfl fl_X7_52 (by first | assumption | exact ⟨Nat.le_of_ble_eq_true rfl, rfl⟩) rfl ?_
    refine bq_isub (q := 97) G dX7_read_96 rfl ?_
    exact hret _ _ _ _ _ dX7_read_97 ⟨by rw [h2], hD, rfl⟩
  have loop : ∀ (u k m it : Nat) (D : Nat → Int32) (J : bq_IR), t - k < u → k ≤ t → it ≤ k → rd_ok D m → D 6 = nI it → cd_R J D m → (J 3 1 = nI (tk_N t (I 2) k) ∧ J 3 2 = nI (tk_B t (I 2) k)) → cs_T t (I 2) k (J 3 3) (J 3 4) → cs_D I J → rd_all t (I 2) u k m D = X → A 0 0 24 [some (.ref (z + 3)), some (.ref (z + 1)), some (.ref (z + 11)), some (.int (nI it)), some (.int (nI it)), none] [] 85 (bq_Rf z) J L := by
    intro u
    induction u with
    | zero => intro k m it D J h; omega
    | succ u ih =>
      intro k m it D J hu hk hit hD h6 hR hN hT hF hX
      rw [rd_all_s] at hX
      have hT1 : J 1 1 = nI t := by rw [hF 1 (by decide) (by decide) (by decide)]; exact ht
      have e2 : J 2 = I 2 := hF 2 (by decide) (by decide) (by decide)
      by_cases hS0 : tk_S t (I 2) k = 0
      · rw [if_pos hS0] at hX
        have htok : J 3 3 = -1 := by
          rcases hT with ⟨_, h⟩ | ⟨h, _⟩ | ⟨h, _⟩
          · exact h
          · rw [hS0] at h; exact absurd h (by decide)
          · exact absurd hS0 h.1
        have end125 : ∀ l5 : Option Value, A 0 0 125 [some (.ref (z + 3)), some (.ref (z + 1)), some (.ref (z + 11)), some (.int (nI it)), some (.int (nI it)), l5] [] 85 (bq_Rf z) J L := by
          intro l5
          subst hX
          refine bq_aload_n (q := 126) G rfl dX7_read_125 rfl ?_
          refine bq_callvV (q := 129) G dX7_read_126 rfl cl_X7_55 (c_X0_begin hR.1.2.2.1) rfl (by first | assumption | exact ⟨Nat.le_of_ble_eq_true rfl, rfl⟩) rfl ⟨Nat.le_of_ble_eq_true rfl, Nat.le_of_ble_eq_true rfl⟩ (Nat.le_of_ble_eq_true rfl) ⟨Nat.le_of_ble_eq_true rfl, Nat.le_of_ble_eq_true rfl⟩ (fun I126 L126 h126 => ?_)
          obtain ⟨⟨g1, g2, g3, g4⟩, rfl⟩ := h126
          refine bq_iload_n (q := 130) G rfl dX7_read_129 rfl ?_
          refine hret _ _ _ _ _ dX7_read_130 ⟨⟨h6.symm, ⟨it, by omega, h6⟩, m, hD, ?_, ?_, ?_, ?_, ?_⟩, fun x a b c => by rw [g4 x (by omega)]; exact hF x a b c, rfl⟩
          · intro j hj; rw [g4 12 (by decide)]; exact hR.1.1 j hj
          · rw [g4 11 (by decide)]; exact hR.1.2.1
          · rw [hR.1.1 0 (by decide)] at g1; exact g1
          · rw [g2]; exact hR.1.2.2.2.1
          · rw [g3, hR.1.1 0 (by decide), hR.1.1 1 (by decide), gs_hgt1 hD.1.2.1.1]
        rcases Nat.lt_or_ge it 200 with h200 | h200
        · refine bq_iload (q := 26) G rfl dX7_read_24 rfl ?_
          refine bq_sipush (q := 29) (v := 200) G (by decide) dX7_read_26 rfl ?_
          refine bq_icmp_ge_f (q := 32) (t := 125) G dX7_read_29 rfl (by decide) (nI_ge (a := it) (b := 200) h200 (by decide)) ?_
          refine bq_aload_n (q := 33) G rfl dX7_read_32 rfl ?_
          refine bq_geti (q := 36) G dX7_read_33 rfl fl_X7_33 (by first | assumption | exact ⟨Nat.le_of_ble_eq_true rfl, rfl⟩) rfl ?_
          refine bq_iconst (q := 37) (v := -1) G (by decide) dX7_read_36 rfl ?_
          refine bq_icmp_eq_t (t := 125) G dX7_read_37 (by decide) htok ?_
          exact end125 none
        · refine bq_iload (q := 26) G rfl dX7_read_24 rfl ?_
          refine bq_sipush (q := 29) (v := 200) G (by decide) dX7_read_26 rfl ?_
          refine bq_icmp_ge_t (t := 125) G dX7_read_29 (by decide) (nI_le (a := 200) (b := it) h200 (by omega)) ?_
          exact end125 none
      · rw [if_neg hS0] at hX
        have hBt := tk_S0 hk hS0
        have hBk := (tk_B_in (t := t) (f := I 2) hk).1
        have hNin := tk_N_in (t := t) (f := I 2) hk
        have hNk := hNin.2.2 hS0
        have fB : ∀ l5 : Option Value, rd_item t (I 2) (tk_B t (I 2) k) (tk_S t (I 2) k) (tk_V t (I 2) k) (tk_N t (I 2) k) m D = .inl (tk_B t (I 2) k) → A 0 0 90 [some (.ref (z + 3)), some (.ref (z + 1)), some (.ref (z + 11)), some (.int (nI it)), some (.int (nI it)), l5] [] 85 (bq_Rf z) J L := by
          intro l5 h
          rw [h] at hX
          exact fault _ J _ _ _ hX.symm hN.2 hF
        have ntok : ¬ J 3 3 = -1 := by
          intro h
          rcases hT with ⟨h1, _⟩ | ⟨_, h2⟩ | ⟨_, h3, _, h4, _⟩
          · exact hS0 h1
          · rcases h2 with ⟨h2, _⟩ | ⟨h2, _⟩ <;> (rw [h2] at h; exact absurd h (by decide))
          · rw [← h3, h] at h4; exact absurd h4 (by decide)
        rcases hT with ⟨h1, _⟩ | ⟨hS2, h2⟩ | ⟨hS, htok, hV, hc0, hi1, _⟩
        · exact absurd h1 hS0
        · have hneg : ¬ 0 ≤ J 3 3 := by
            rcases h2 with ⟨h2, _⟩ | ⟨h2, _⟩ <;> (rw [h2]; decide)
          refine bq_iload (q := 26) G rfl dX7_read_24 rfl ?_
          refine bq_sipush (q := 29) (v := 200) G (by decide) dX7_read_26 rfl ?_
          refine bq_icmp_ge_f (q := 32) (t := 125) G dX7_read_29 rfl (by decide) (nI_ge (a := it) (b := 200) (by omega) (by decide)) ?_
          refine bq_aload_n (q := 33) G rfl dX7_read_32 rfl ?_
          refine bq_geti (q := 36) G dX7_read_33 rfl fl_X7_33 (by first | assumption | exact ⟨Nat.le_of_ble_eq_true rfl, rfl⟩) rfl ?_
          refine bq_iconst (q := 37) (v := -1) G (by decide) dX7_read_36 rfl ?_
          refine bq_icmp_eq_f (q := 40) (t := 125) G dX7_read_37 rfl (by decide) ntok ?_
          refine bq_aload_n (q := 41) G rfl dX7_read_40 rfl ?_
          refine bq_geti (q := 44) G dX7_read_41 rfl fl_X7_33 (by first | assumption | exact ⟨Nat.le_of_ble_eq_true rfl, rfl⟩) rfl ?_
          refine bq_if_ge_f (q := 47) (t := 52) G dX7_read_44 rfl (by decide) hneg ?_
          refine bq_bipush (q := 49) (v := -9) G (by decide) dX7_read_47 rfl ?_
          refine bq_goto (q := 62) G dX7_read_49 (by decide) ?_
          refine bq_istore (q := 64) (ls' := [_, _, _, _, _, _]) G dX7_read_62 rfl (by decide) rfl rfl ?_
          refine bq_iload (q := 66) G rfl dX7_read_64 rfl ?_
          refine bq_if_lt_t (t := 90) G dX7_read_66 (by decide) (by decide) ?_
          exact fB _ (rd_item_n (Or.inl (by rw [hS2]; decide)))
        · have hcf : tk_c t (I 2) k = I 2 (tk_B t (I 2) k) := if_pos hBt
          obtain ⟨x, hx, ex⟩ := gs_rng (M := 255) (k := 255) (by decide) ⟨hc0, by rw [hcf]; exact (hlet _).2⟩
          obtain ⟨Dd, GD⟩ := G.ex
          have hpos : 0 ≤ J 3 3 := by rw [htok]; exact hc0
          refine bq_iload (q := 26) G rfl dX7_read_24 rfl ?_
          refine bq_sipush (q := 29) (v := 200) G (by decide) dX7_read_26 rfl ?_
          refine bq_icmp_ge_f (q := 32) (t := 125) G dX7_read_29 rfl (by decide) (nI_ge (a := it) (b := 200) (by omega) (by decide)) ?_
          refine bq_aload_n (q := 33) G rfl dX7_read_32 rfl ?_
          refine bq_geti (q := 36) G dX7_read_33 rfl fl_X7_33 (by first | assumption | exact ⟨Nat.le_of_ble_eq_true rfl, rfl⟩) rfl ?_
          refine bq_iconst (q := 37) (v := -1) G (by decide) dX7_read_36 rfl ?_
          refine bq_icmp_eq_f (q := 40) (t := 125) G dX7_read_37 rfl (by decide) ntok ?_
          refine bq_aload_n (q := 41) G rfl dX7_read_40 rfl ?_
          refine bq_geti (q := 44) G dX7_read_41 rfl fl_X7_33 (by first | assumption | exact ⟨Nat.le_of_ble_eq_true rfl, rfl⟩) rfl ?_
          refine bq_if_ge_t (t := 52) G dX7_read_44 (by decide) hpos ?_
          refine bq_ldcS (q := 54) GD dX7_read_52 rfl ?_
          refine bq_aload_n (q := 55) G rfl dX7_read_54 rfl ?_
          refine bq_geti (q := 58) G dX7_read_55 rfl fl_X7_33 (by first | assumption | exact ⟨Nat.le_of_ble_eq_true rfl, rfl⟩) rfl ?_
          rw [htok, ex]
          refine bq_i2c (q := 59) G dX7_read_58 rfl ?_
          rw [st_i2c x (by omega)]
          refine bq_callvS (q := 62) GD dX7_read_59 rfl cb_X7_38 wn_J0_indexOf_0f7a4 ws_J0_indexOf_0f7a4 rfl (c_J0_indexOf_0f7a4 (x := x) (by omega)) rfl rfl ⟨Nat.le_of_ble_eq_true rfl, Nat.le_of_ble_eq_true rfl⟩ (Nat.le_of_ble_eq_true rfl) ⟨Nat.le_of_ble_eq_true rfl, Nat.le_of_ble_eq_true rfl⟩ ?_
          rw [← ex]
          by_cases hit0 : tk_it (tk_c t (I 2) k) < 0
          · refine bq_istore (q := 64) (ls' := [_, _, _, _, _, _]) G dX7_read_62 rfl (by decide) rfl rfl ?_
            refine bq_iload (q := 66) G rfl dX7_read_64 rfl ?_
            refine bq_if_lt_t (t := 90) G dX7_read_66 (by decide) hit0 ?_
            exact fB _ (rd_item_n (Or.inr (by rw [hV]; exact hit0)))
          · have hS1 : tk_S t (I 2) k = 1 := hi1.mpr hit0
            rcases tk_it_or (tk_c t (I 2) k) with h | ⟨i, hi, ei⟩
            · rw [h] at hit0; exact absurd (by decide) hit0
            · have eiV : tk_it (tk_V t (I 2) k) = nI i := by rw [hV]; exact ei
              rw [ei]
              rw [hS1] at hX fB
              have post : ∀ (l5 : Option Value) (K : bq_IR) (p : Nat × (Nat → Int32)) (m' : Nat), rd_item t (I 2) (tk_B t (I 2) k) 1 (tk_V t (I 2) k) (tk_N t (I 2) k) m D = .inr p → tk_S t (I 2) p.1 = 3 → K 3 1 = nI (tk_N t (I 2) p.1) → cs_D I K → m' = (if tk_it (tk_V t (I 2) k) = 5 then m + 1 else m) → p.2 6 = D 6 → cd_R (bq_sr K 3 (upd (K 3) 5 (K 3 5 ||| (1 <<< (nI i &&& 31))))) (upd p.2 6 (p.2 6 + 1)) m' → A 0 0 98 [some (.ref (z + 3)), some (.ref (z + 1)), some (.ref (z + 11)), some (.int (nI it)), some (.int (nI it)), some (.int (nI i))] [] 85 (bq_Rf z) K L := by
                intro l5 K p m' hp hS3 hK1 hKD hm' hp6 hKR
                obtain ⟨⟨hp1, hp2⟩, hok⟩ := rd_item_r hNin.2.1 hD hp
                rw [hp] at hX
                have hX : (if tk_S t (I 2) p.1 = 3 then rd_all t (I 2) u (tk_N t (I 2) p.1) (if tk_it (tk_V t (I 2) k) = 5 then m + 1 else m) (upd p.2 6 (p.2 6 + 1)) else .inl (tk_B t (I 2) p.1)) = X := hX
                rw [if_pos hS3, ← hm'] at hX
                rw [← hm'] at hok
                have hNp := tk_N_in (t := t) (f := I 2) hp2
                refine bq_aload_n (q := 99) G rfl dX7_read_98 rfl ?_
                refine bq_dup (q := 100) G rfl dX7_read_99 rfl ?_
                refine bq_geti (q := 103) G dX7_read_100 rfl fl_X7_24 (by first | assumption | exact ⟨Nat.le_of_ble_eq_true rfl, rfl⟩) rfl ?_
                refine bq_iconst (q := 104) (v := 1) G (by decide) dX7_read_103 rfl ?_
                refine bq_iload (q := 106) G rfl dX7_read_104 rfl ?_
                refine bq_ishl (q := 107) G dX7_read_106 rfl ?_
                refine bq_ior (q := 108) G dX7_read_107 rfl ?_
                refine bq_puti (q := 111) G dX7_read_108 rfl fl_X7_24 (by first | assumption | exact ⟨Nat.le_of_ble_eq_true rfl, rfl⟩) rfl rfl ?_
                refine bq_nameI (P := fun K' => cd_R K' (upd p.2 6 (p.2 6 + 1)) m' ∧ K' 3 1 = nI (tk_N t (I 2) p.1) ∧ cs_D I K') ⟨hKR, by rw [bq_sru, if_neg (by decide)]; exact hK1, fun x a b c => by rw [bq_sr_n a]; exact hKD x a b c⟩ (fun K' hK' => ?_)
                obtain ⟨k1, k2, k3⟩ := hK'
                have hT2 : K' 1 1 = nI t := by rw [k3 1 (by decide) (by decide) (by decide)]; exact ht
                have e22 : K' 2 = I 2 := k3 2 (by decide) (by decide) (by decide)
                refine bq_iinc (q := 114) (ls' := [_, _, _, _, _, _]) G dX7_read_111 rfl rfl (by first | exact nI_1 _ | exact pk_m1 _ | rfl) (by decide) rfl rfl ?_
                refine bq_aload_n (q := 115) G rfl dX7_read_114 rfl ?_
                refine bq_aload_n (q := 116) G rfl dX7_read_115 rfl ?_
                refine bq_callvV (q := 119) G dX7_read_116 rfl cl_X7_27 (c_X7_step (t := t) (k := tk_N t (I 2) p.1) hT2 ht2 hNp.2.1 k2) rfl (by first | assumption | exact ⟨Nat.le_of_ble_eq_true rfl, rfl⟩) rfl ⟨Nat.le_of_ble_eq_true rfl, Nat.le_of_ble_eq_true rfl⟩ (Nat.le_of_ble_eq_true rfl) ⟨Nat.le_of_ble_eq_true rfl, Nat.le_of_ble_eq_true rfl⟩ (fun I116 L116 h116 => ?_)
                obtain ⟨⟨⟨m1, m2⟩, mT, mF⟩, rfl⟩ := h116
                rw [e22] at m1 m2 mT
                refine bq_iinc (q := 122) (ls' := [_, _, _, _, _, _]) G dX7_read_119 rfl rfl (by first | exact nI_1 _ | exact pk_m1 _ | rfl) (by decide) rfl rfl ?_
                refine bq_goto (q := 24) G dX7_read_122 (by decide) ?_
                refine bq_forget G ?_ (ih (tk_N t (I 2) p.1) m' (it + 1) (upd p.2 6 (p.2 6 + 1)) _ (by omega) hNp.2.1 (by omega) (hok.hi (Or.inl rfl) _) (by rw [pk_us, hp6, h6, nI_1]) ?_ ⟨m1, m2⟩ mT (k3.stp mF) hX)
                · repeat (first | exact bq_le_0 _ | refine bq_le_n ?_ | refine bq_le_s rfl ?_)
                · obtain ⟨⟨r1, r2, r3, r4, r5⟩, x', y', q1, q2, q3, q4⟩ := k1
                  exact ⟨⟨fun j hj => by rw [mF.2 12 (by decide)]; exact r1 j hj, by rw [mF.2 11 (by decide)]; exact r2, r3.same (mF.2 13 (by decide)) (mF.2 14 (by decide)) (mF.2 15 (by decide)) (mF.2 16 (by decide)), by rw [mF.2 13 (by decide)]; exact r4, by rw [mF.2 13 (by decide)]; exact r5⟩, x', y', q1, q2, by rw [mF.1]; exact q3, q4⟩
              have bad : ∀ (K : bq_IR) (s : Nat), (rd_item t (I 2) (tk_B t (I 2) k) 1 (tk_V t (I 2) k) (tk_N t (I 2) k) m D = .inl s ∨ ∃ p, rd_item t (I 2) (tk_B t (I 2) k) 1 (tk_V t (I 2) k) (tk_N t (I 2) k) m D = .inr p ∧ ¬ tk_S t (I 2) p.1 = 3 ∧ s = tk_B t (I 2) p.1) → K 3 2 = nI s → cs_D I K → A 0 0 90 [some (.ref (z + 3)), some (.ref (z + 1)), some (.ref (z + 11)), some (.int (nI it)), some (.int (nI it)), some (.int (nI i))] [] 85 (bq_Rf z) K L := by
                intro K s hs h2 hKD
                refine fault s K _ _ _ ?_ h2 hKD
                rcases hs with hs | ⟨p, hp, hS3, rfl⟩
                · rw [hs] at hX; exact hX.symm
                · rw [hp] at hX
                  have hX : (if tk_S t (I 2) p.1 = 3 then rd_all t (I 2) u (tk_N t (I 2) p.1) (if tk_it (tk_V t (I 2) k) = 5 then m + 1 else m) (upd p.2 6 (p.2 6 + 1)) else .inl (tk_B t (I 2) p.1)) = X := hX
                  rw [if_neg hS3] at hX
                  exact hX.symm
              have hm8 := hD.2.1.2
              refine bq_istore (q := 64) (ls' := [_, _, _, _, _, _]) G dX7_read_62 rfl (by decide) rfl rfl ?_
              refine bq_iload (q := 66) G rfl dX7_read_64 rfl ?_
              refine bq_if_lt_f (q := 69) (t := 90) G dX7_read_66 rfl (by decide) (nI_pos (by omega)) ?_
              refine bq_aload_n (q := 70) G rfl dX7_read_69 rfl ?_
              refine bq_iload (q := 72) G rfl dX7_read_70 rfl ?_
              refine bq_aload_n (q := 73) G rfl dX7_read_72 rfl ?_
              refine bq_callvI (q := 76) G dX7_read_73 rfl cl_X7_44 (c_X7_isOneTooMany hi) rfl (by first | assumption | exact ⟨Nat.le_of_ble_eq_true rfl, rfl⟩) rfl ⟨Nat.le_of_ble_eq_true rfl, Nat.le_of_ble_eq_true rfl⟩ (Nat.le_of_ble_eq_true rfl) ⟨Nat.le_of_ble_eq_true rfl, Nat.le_of_ble_eq_true rfl⟩ (fun r73 I73 L73 h73 => ?_)
              obtain ⟨hr, rfl, rfl⟩ := h73
              have key5 : i = 5 → (8 ≤ I73 11 2 ↔ m = 8) := fun _ => by
                rw [hR.1.2.1]
                exact ⟨fun h => by have := (nI_leI (a := 8) (by decide) (by omega)).mp h; omega, fun h => by rw [h]; decide⟩
              rcases hr with ⟨rfl, hr⟩ | ⟨rfl, hr⟩
              · refine bq_if_ne_t (t := 90) G dX7_read_76 (by decide) (by decide) ?_
                refine fB _ ?_
                rcases hr with ⟨h5, h8⟩ | ⟨h5, hb⟩
                · subst h5
                  rw [rd_item_b eiV, if_pos ((key5 rfl).mp h8)]
                · rw [rd_item_s (by omega) eiV, if_pos (by rw [← cd_bit hR (by omega)]; exact hb)]
              · by_cases h5 : i = 5
                · subst h5
                  have hmlt : m < 8 := by
                    rcases Nat.lt_or_ge m 8 with h | h
                    · exact h
                    · exact absurd (Or.inl ⟨rfl, (key5 rfl).mpr (by omega)⟩) hr
                  have hit : rd_item t (I 2) (tk_B t (I 2) k) 1 (tk_V t (I 2) k) (tk_N t (I 2) k) m D = _ := (rd_item_b eiV).trans (if_neg (by omega))
                  refine bq_if_ne_f (q := 79) (t := 90) G dX7_read_76 rfl (by decide) rfl ?_
                  refine bq_aload_n (q := 80) G rfl dX7_read_79 rfl ?_
                  refine bq_aload_n (q := 81) G rfl dX7_read_80 rfl ?_
                  refine bq_aload_n (q := 82) G rfl dX7_read_81 rfl ?_
                  refine bq_iload (q := 84) G rfl dX7_read_82 rfl ?_
                  refine bq_callvI (q := 87) G dX7_read_84 rfl cl_X7_48 (c_item_b (t := t) (k := tk_N t (I 2) k) (m := m) (D := D) hT1 ht2 hNin.2.1 hN.1 hR.1.2.1 hmlt hR.1.2.2.1) rfl (by first | assumption | exact ⟨Nat.le_of_ble_eq_true rfl, rfl⟩) rfl ⟨Nat.le_of_ble_eq_true rfl, Nat.le_of_ble_eq_true rfl⟩ (Nat.le_of_ble_eq_true rfl) ⟨Nat.le_of_ble_eq_true rfl, Nat.le_of_ble_eq_true rfl⟩ (fun r84 I84 L84 h84 => ?_)
                  obtain ⟨hP, hKD, rfl⟩ := h84
                  rw [e2, ← hit] at hP
                  have hF2 := hF.tr hKD
                  generalize hY : rd_item t (I 2) (tk_B t (I 2) k) 1 (tk_V t (I 2) k) (tk_N t (I 2) k) m D = Y at hP
                  cases Y with
                  | inl s =>
                    obtain ⟨rfl, h2⟩ := hP
                    refine bq_if_ne_f (q := 90) (t := 98) G dX7_read_87 rfl (by decide) rfl ?_
                    exact bad _ s (Or.inl hY) h2 hF2
                  | inr p =>
                    rcases hP with ⟨hS3, rfl, h1, ⟨⟨g1, g2, g3⟩, g4, g5, g6⟩⟩ | ⟨hS3, rfl, h2⟩
                    · refine bq_if_ne_t (t := 98) G dX7_read_87 (by decide) (by decide) ?_
                      obtain ⟨V1, V2, V3, v, hp2⟩ := rd_bind3 (hit.symm.trans hY)
                      have a8 : p.2 (8 + m) = V1 := by rw [hp2, pk_un (by omega), pk_un (by omega), pk_un (by omega), pk_us]
                      have a16 : p.2 (16 + m) = V2 := by rw [hp2, pk_un (by omega), pk_un (by omega), pk_us]
                      have a24 : p.2 (24 + m) = V3 := by rw [hp2, pk_un (by omega), pk_us]
                      rw [a8, a16, a24] at g1
                      have n13 : ∀ y, y ≠ 3 → bq_sr I84 3 (upd (I84 3) 5 (I84 3 5 ||| (1 <<< (nI 5 &&& 31)))) y = I84 y := fun y hy => bq_sr_n hy
                      refine post none _ p (m + 1) hY hS3 h1 hF2 (if_pos (show tk_it (tk_V t (I 2) k) = 5 from eiV)).symm (by rw [hp2, pk_un (by omega), pk_un (by omega), pk_un (by omega), pk_un (by omega)]) ?_
                      rw [hp2]
                      refine cd_brm hR hmlt (g1.same (n13 _ (by decide)) (n13 _ (by decide)) (n13 _ (by decide)) (n13 _ (by decide))) (by rw [n13 13 (by decide)]; exact g2) (by rw [n13 13 (by decide)]; exact g3) (by rw [n13 11 (by decide)]; exact g4) (by rw [n13 12 (by decide)]; exact g5) (by rw [bq_sru, if_pos rfl, g6])
                    · refine bq_if_ne_f (q := 90) (t := 98) G dX7_read_87 rfl (by decide) rfl ?_
                      exact bad _ _ (Or.inr ⟨p, hY, hS3, rfl⟩) h2 hF2
                · have hi5 : i < 5 := by omega
                  have hnb : ¬ D 7 >>> (nI i &&& 31) &&& 1 = 1 := fun h => hr (Or.inr ⟨h5, by rw [cd_bit hR hi5]; exact h⟩)
                  have hit : rd_item t (I 2) (tk_B t (I 2) k) 1 (tk_V t (I 2) k) (tk_N t (I 2) k) m D = _ := (rd_item_s hi5 eiV).trans (if_neg hnb)
                  refine bq_if_ne_f (q := 79) (t := 90) G dX7_read_76 rfl (by decide) rfl ?_
                  refine bq_aload_n (q := 80) G rfl dX7_read_79 rfl ?_
                  refine bq_aload_n (q := 81) G rfl dX7_read_80 rfl ?_
                  refine bq_aload_n (q := 82) G rfl dX7_read_81 rfl ?_
                  refine bq_iload (q := 84) G rfl dX7_read_82 rfl ?_
                  refine bq_callvI (q := 87) G dX7_read_84 rfl cl_X7_48 (c_item_s (t := t) (k := tk_N t (I 2) k) (i := i) (D := rd_o D i) hT1 ht2 hNin.2.1 hN.1 hi5) rfl (by first | assumption | exact ⟨Nat.le_of_ble_eq_true rfl, rfl⟩) rfl ⟨Nat.le_of_ble_eq_true rfl, Nat.le_of_ble_eq_true rfl⟩ (Nat.le_of_ble_eq_true rfl) ⟨Nat.le_of_ble_eq_true rfl, Nat.le_of_ble_eq_true rfl⟩ (fun r84 I84 L84 h84 => ?_)
                  obtain ⟨hP, hKD, rfl⟩ := h84
                  rw [e2, ← hit] at hP
                  have hF2 := hF.tr hKD
                  generalize hY : rd_item t (I 2) (tk_B t (I 2) k) 1 (tk_V t (I 2) k) (tk_N t (I 2) k) m D = Y at hP
                  cases Y with
                  | inl s =>
                    obtain ⟨rfl, h2⟩ := hP
                    refine bq_if_ne_f (q := 90) (t := 98) G dX7_read_87 rfl (by decide) rfl ?_
                    exact bad _ s (Or.inl hY) h2 hF2
                  | inr p =>
                    rcases hP with ⟨hS3, rfl, h1, ⟨g1, g2, g3⟩⟩ | ⟨hS3, rfl, h2⟩
                    · refine bq_if_ne_t (t := 98) G dX7_read_87 (by decide) (by decide) ?_
                      obtain ⟨hp2, -⟩ := rd_num_r (hit.symm.trans hY)
                      have e5 : ¬ tk_it (tk_V t (I 2) k) = 5 := by rw [eiV]; exact fun h => h5 ((nI_eq (b := 5) (by omega) (by decide)).mp h)
                      have hpp : p.2 = upd (upd D 7 (D 7 ||| (1 <<< (nI i &&& 31)))) i (p.2 i) := by rw [hp2]; dsimp only; rw [pk_us]
                      have n3 : ∀ y, y ≠ 3 → bq_sr I84 3 (upd (I84 3) 5 (I84 3 5 ||| (1 <<< (nI i &&& 31)))) y = I84 y := fun y hy => bq_sr_n hy
                      refine post none _ p m hY hS3 h1 hF2 (by rw [if_neg e5]) (by rw [hpp, pk_un (by omega), pk_un (by decide)]) ?_
                      have hset := cd_set (K := bq_sr I84 3 (upd (I84 3) 5 (I84 3 5 ||| (1 <<< (nI i &&& 31))))) (V := p.2 i) (w := p.2 6 + 1) hR hi5 (by rw [n3 12 (by decide)]; exact g1) (fun x a b c => by rw [n3 x a]; exact g3 x a b c) (by rw [bq_sru, if_pos rfl, g2])
                      rw [← hpp] at hset
                      exact hset
                    · refine bq_if_ne_f (q := 90) (t := 98) G dX7_read_87 rfl (by decide) rfl ?_
                      exact bad _ _ (Or.inr ⟨p, hY, hS3, rfl⟩) h2 hF2
  refine bq_aload_n (q := 1) G rfl dX7_read_0 rfl ?_
  refine bq_callvV (q := 4) G dX7_read_1 rfl cl_X7_15 (c_X0_tellNothing (bq_Ce11 z)) rfl (by first | assumption | exact ⟨Nat.le_of_ble_eq_true rfl, rfl⟩) rfl ⟨Nat.le_of_ble_eq_true rfl, Nat.le_of_ble_eq_true rfl⟩ (Nat.le_of_ble_eq_true rfl) ⟨Nat.le_of_ble_eq_true rfl, Nat.le_of_ble_eq_true rfl⟩ (fun I1 L1 h1 => ?_)
  obtain ⟨⟨g1, g2, g3, g4⟩, rfl⟩ := h1
  refine bq_aload_n (q := 5) G rfl dX7_read_4 rfl ?_
  refine bq_iconst (q := 6) (v := 0) G (by decide) dX7_read_5 rfl ?_
  refine bq_puti (q := 9) G dX7_read_6 rfl fl_X7_20 (by first | assumption | exact ⟨Nat.le_of_ble_eq_true rfl, rfl⟩) rfl rfl ?_
  refine bq_aload_n (q := 10) G rfl dX7_read_9 rfl ?_
  refine bq_iconst (q := 11) (v := 0) G (by decide) dX7_read_10 rfl ?_
  refine bq_puti (q := 14) G dX7_read_11 rfl fl_X7_24 (by first | assumption | exact ⟨Nat.le_of_ble_eq_true rfl, rfl⟩) rfl rfl ?_
  refine bq_nameI (P := fun K => (K 3 1 = 0 ∧ K 3 5 = 0) ∧ ∀ x, x ≠ 3 → K x = I1 x) ⟨⟨by rw [bq_sru, if_neg (by decide), bq_sru, if_pos rfl], by rw [bq_sru, if_pos rfl]⟩, fun x hx => by rw [bq_sr_n hx, bq_sr_n hx]⟩ (fun K hK => ?_)
  obtain ⟨⟨k1, k5⟩, kx⟩ := hK
  have hKD : cs_D I K := fun x a b c => by rw [kx x a]; exact g4 x (by omega) (by omega) (by omega)
  have hT1 : K 1 1 = nI t := by rw [hKD 1 (by decide) (by decide) (by decide)]; exact ht
  have e2 : K 2 = I 2 := hKD 2 (by decide) (by decide) (by decide)
  refine bq_iconst (q := 15) (v := 0) G (by decide) dX7_read_14 rfl ?_
  refine bq_istore_n (q := 16) (ls' := [_, _, _, _, _, _]) G dX7_read_15 rfl (by decide) rfl rfl ?_
  refine bq_aload_n (q := 17) G rfl dX7_read_16 rfl ?_
  refine bq_aload_n (q := 18) G rfl dX7_read_17 rfl ?_
  refine bq_callvV (q := 21) G dX7_read_18 rfl cl_X7_27 (c_X7_step (t := t) (k := 0) hT1 ht2 (by omega) k1) rfl (by first | assumption | exact ⟨Nat.le_of_ble_eq_true rfl, rfl⟩) rfl ⟨Nat.le_of_ble_eq_true rfl, Nat.le_of_ble_eq_true rfl⟩ (Nat.le_of_ble_eq_true rfl) ⟨Nat.le_of_ble_eq_true rfl, Nat.le_of_ble_eq_true rfl⟩ (fun I18 L18 h18 => ?_)
  obtain ⟨⟨⟨m1, m2⟩, mT, mF⟩, rfl⟩ := h18
  rw [e2] at m1 m2 mT
  refine bq_iconst (q := 22) (v := 0) G (by decide) dX7_read_21 rfl ?_
  refine bq_istore (q := 24) (ls' := [_, _, _, _, _, _]) G dX7_read_22 rfl (by decide) rfl rfl ?_
  refine loop (t + 1) 0 0 0 (rd_D0 G0) _ (by omega) (by omega) (by omega) (rd_ok0 G0) ?_ ?_ ⟨m1, m2⟩ mT (hKD.stp mF) hXe
  · show upd (upd (upd (gs_cp 32 (fun _ => 0) G0) 1 4) 3 10) 4 8 6 = nI 0
    rw [pk_un (by decide), pk_un (by decide), pk_un (by decide), gs_cp_lt (by decide)]; rfl
  · have d0 : ∀ j, j < 5 → rd_D0 G0 j = cf_s j := by
      intro j hj
      unfold rd_D0
      rcases (show j = 0 ∨ j = 1 ∨ j = 2 ∨ j = 3 ∨ j = 4 by omega) with rfl | rfl | rfl | rfl | rfl
      · rw [pk_un (by decide), pk_un (by decide), pk_un (by decide), gs_cp_lt (by decide)]; rfl
      · rw [pk_un (by decide), pk_un (by decide), pk_us]; rfl
      · rw [pk_un (by decide), pk_un (by decide), pk_un (by decide), gs_cp_lt (by decide)]; rfl
      · rw [pk_un (by decide), pk_us]; rfl
      · rw [pk_us]; rfl
    have d7 : rd_D0 G0 7 = nI 0 := by
      unfold rd_D0
      rw [pk_un (by decide), pk_un (by decide), pk_un (by decide), gs_cp_lt (by decide)]; rfl
    have hz : ∀ x, x ≠ 3 → I18 x = I1 x := fun x hx => (mF.2 x hx).trans (kx x hx)
    refine ⟨⟨fun j hj => ?_, ?_, ?_, ?_, ?_⟩, 0, 0, by decide, by decide, ?_, d7, fun _ _ => rfl⟩
    · rw [hz 12 (by decide), d0 j hj]; exact g1 j hj
    · rw [hz 11 (by decide)]; exact g2
    · exact g3.1.same (hz _ (by decide)) (hz _ (by decide)) (hz _ (by decide)) (hz _ (by decide))
    · rw [hz 13 (by decide)]; exact g3.2.1
    · rw [hz 13 (by decide)]; exact g3.2.2
    · rw [mF.1]; exact k5
