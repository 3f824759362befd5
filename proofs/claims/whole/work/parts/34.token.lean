/-! tokens of a text f of t letters -/
def tk_lt (t : Nat) (f : Nat → Int32) (k : Nat) : Int32 := if k < t then f k else -1
def tk_dg (v : Int32) : Prop := 48 ≤ v ∧ v ≤ 57
def tk_it (v : Int32) : Int32 := if v = 119 then 0 else if v = 97 then 1 else if v = 100 then 2 else if v = 109 then 3 else if v = 115 then 4 else if v = 98 then 5 else -1
/-- over blanks; over digits -/
def tk_sk (t : Nat) (f : Nat → Int32) : Nat → Nat → Nat
  | 0, k => k
  | d + 1, k => if tk_lt t f k = 32 then tk_sk t f d (k + 1) else k
def tk_B (t : Nat) (f : Nat → Int32) (k : Nat) : Nat := tk_sk t f (t - k) k
def tk_de (t : Nat) (f : Nat → Int32) : Nat → Nat → Nat
  | 0, k => k
  | d + 1, k => if 48 ≤ tk_lt t f k ∧ tk_lt t f k ≤ 57 then tk_de t f d (k + 1) else k
def tk_E (t : Nat) (f : Nat → Int32) (k : Nat) : Nat := tk_de t f (t - k) k
/-- the number that begins at s, behind i further digits -/
def tk_mv (f : Nat → Int32) (s : Nat) : Nat → Int32
  | 0 => f s - 48
  | i + 1 => if f s = 48 ∨ 99 < tk_mv f s i then 1000 else 10 * tk_mv f s i + f (s + 1 + i) - 48
def tk_c (t : Nat) (f : Nat → Int32) (k : Nat) : Int32 := tk_lt t f (tk_B t f k)
def tk_S (t : Nat) (f : Nat → Int32) (k : Nat) : Int32 := if tk_c t f k < 0 then 0 else if ¬ tk_it (tk_c t f k) < 0 then 1 else if 48 ≤ tk_c t f k ∧ tk_c t f k ≤ 57 then 2 else if tk_c t f k = 59 then 3 else 4
def tk_N (t : Nat) (f : Nat → Int32) (k : Nat) : Nat := if tk_S t f k = 0 then tk_B t f k else if tk_S t f k = 2 then tk_E t f (tk_B t f k + 1) else tk_B t f k + 1
def tk_V (t : Nat) (f : Nat → Int32) (k : Nat) : Int32 := if tk_S t f k = 2 then tk_mv f (tk_B t f k) (tk_E t f (tk_B t f k + 1) - (tk_B t f k + 1)) else tk_c t f k
theorem tk_sk_ge (t : Nat) (f : Nat → Int32) : ∀ d k, k ≤ tk_sk t f d k ∧ tk_sk t f d k ≤ k + d
  | 0, k => ⟨Nat.le_refl k, Nat.le_refl k⟩
  | d + 1, k => by
    unfold tk_sk
    split
    · have := tk_sk_ge t f d (k + 1); omega
    · omega
theorem tk_de_ge (t : Nat) (f : Nat → Int32) : ∀ d k, k ≤ tk_de t f d k ∧ tk_de t f d k ≤ k + d
  | 0, k => ⟨Nat.le_refl k, Nat.le_refl k⟩
  | d + 1, k => by
    unfold tk_de
    split
    · have := tk_de_ge t f d (k + 1); omega
    · omega
theorem tk_B_in {t : Nat} {f : Nat → Int32} {k : Nat} (h : k ≤ t) : k ≤ tk_B t f k ∧ tk_B t f k ≤ t := by
  have := tk_sk_ge t f (t - k) k
  unfold tk_B; omega
theorem tk_E_in {t : Nat} {f : Nat → Int32} {k : Nat} (h : k ≤ t) : k ≤ tk_E t f k ∧ tk_E t f k ≤ t := by
  have := tk_de_ge t f (t - k) k
  unfold tk_E; omega
theorem tk_lt_neg {t : Nat} {f : Nat → Int32} (hf : ∀ j, j < t → 0 ≤ f j) {k : Nat} : tk_lt t f k < 0 ↔ t ≤ k := by
  unfold tk_lt
  split
  · rename_i h
    exact ⟨fun h2 => absurd (hf k h) (Int32.not_le.mpr h2), fun h2 => absurd h2 (by omega)⟩
  · rename_i h
    exact ⟨fun _ => by omega, fun _ => by decide⟩
theorem tk_B_s {t : Nat} {f : Nat → Int32} {k : Nat} (h : tk_lt t f k = 32) : tk_B t f k = tk_B t f (k + 1) := by
  have hk : k < t := by
    unfold tk_lt at h
    split at h
    · assumption
    · exact absurd h (by decide)
  unfold tk_B
  rw [show t - k = (t - (k + 1)) + 1 by omega]
  show (if tk_lt t f k = 32 then tk_sk t f (t - (k + 1)) (k + 1) else k) = _
  rw [if_pos h]
theorem tk_B_n {t : Nat} {f : Nat → Int32} {k : Nat} (h : ¬ tk_lt t f k = 32) : tk_B t f k = k := by
  unfold tk_B
  cases e : t - k with
  | zero => rfl
  | succ d =>
    show (if tk_lt t f k = 32 then tk_sk t f d (k + 1) else k) = k
    rw [if_neg h]
theorem tk_E_s {t : Nat} {f : Nat → Int32} {k : Nat} (h : 48 ≤ tk_lt t f k ∧ tk_lt t f k ≤ 57) : tk_E t f k = tk_E t f (k + 1) ∧ k < t ∧ tk_lt t f k = f k := by
  have hk : k < t := by
    by_cases hk : k < t
    · exact hk
    · exfalso
      have e : tk_lt t f k = -1 := if_neg hk
      rw [e] at h
      exact absurd h.1 (by decide)
  refine ⟨?_, hk, if_pos hk⟩
  unfold tk_E
  rw [show t - k = (t - (k + 1)) + 1 by omega]
  show (if 48 ≤ tk_lt t f k ∧ tk_lt t f k ≤ 57 then tk_de t f (t - (k + 1)) (k + 1) else k) = _
  rw [if_pos h]
theorem tk_E_n {t : Nat} {f : Nat → Int32} {k : Nat} (h : ¬ (48 ≤ tk_lt t f k ∧ tk_lt t f k ≤ 57)) : tk_E t f k = k := by
  unfold tk_E
  cases e : t - k with
  | zero => rfl
  | succ d =>
    show (if 48 ≤ tk_lt t f k ∧ tk_lt t f k ≤ 57 then tk_de t f d (k + 1) else k) = k
    rw [if_neg h]
theorem tk_mv_s (f : Nat → Int32) (s i : Nat) : tk_mv f s (i + 1) = if f s = 48 ∨ 99 < tk_mv f s i then 1000 else 10 * tk_mv f s i + f (s + 1 + i) - 48 := rfl
set_option maxHeartbeats 1000000 in
set_option maxRecDepth 100000 in
theorem c_X9_isDigit {z n : Nat} {R : bq_RR} {I : bq_IR} {L : bq_LR} {v : Int32}  : bq_FC MX9_isDigit z [.int v] n R I L 0 0 (some (.int (if 48 ≤ v ∧ v ≤ 57 then 1 else 0))) n R (I) (L) := by
  refine bq_ofI [some (.int v)] rfl (Nat.le_of_ble_eq_true rfl) (by decide) rfl (by first | rfl | exact bq_nb _ | (split <;> rfl)) ?_
  intro A G hret
  have G : bq_Cx cX9_isDigit RX9 1 z (bq_rm MX9_isDigit 0 0) "isDigit" A := G
  refine bq_iload_n (q := 1) G rfl dX9_isDigit_0 rfl ?_
  refine bq_bipush (q := 3) (v := 48) G (by decide) dX9_isDigit_1 rfl ?_
  refine bq_bipush (q := 5) (v := 57) G (by decide) dX9_isDigit_3 rfl ?_
  refine bq_calls (q := 8) G dX9_isDigit_5 rfl cl_X9_45 (c_X9_in) rfl rfl ⟨Nat.le_of_ble_eq_true rfl, Nat.le_of_ble_eq_true rfl⟩ (Nat.le_of_ble_eq_true rfl) ⟨Nat.le_of_ble_eq_true rfl, Nat.le_of_ble_eq_true rfl⟩ rfl ?_
  exact hret _ _ dX9_isDigit_8
set_option maxHeartbeats 1000000 in
set_option maxRecDepth 100000 in
theorem c_X9_itemOf {z n : Nat} {R : bq_RR} {I : bq_IR} {L : bq_LR} {v : Int32}  : bq_FC MX9_itemOf z [.int v] n R I L 0 0 (some (.int (tk_it v))) n R (I) (L) := by
  refine bq_ofI [some (.int v)] rfl (Nat.le_of_ble_eq_true rfl) (by decide) rfl rfl ?_
  intro A G hret
  have G : bq_Cx cX9_itemOf RX9 1 z (bq_rm MX9_itemOf 0 0) "itemOf" A := G
  refine bq_iload_n (q := 1) G rfl dX9_itemOf_0 rfl ?_
  refine bq_bipush (q := 3) (v := 119) G (by decide) dX9_itemOf_1 rfl ?_
  refine bq_icmp_ne (t := 10) (q := 6) G dX9_itemOf_3 (by decide) rfl (fun c3 => ?_) (fun c3 => ?_)
  · refine bq_iload_n (q := 11) G rfl dX9_itemOf_10 rfl ?_
    refine bq_bipush (q := 13) (v := 97) G (by decide) dX9_itemOf_11 rfl ?_
    refine bq_icmp_ne (t := 20) (q := 16) G dX9_itemOf_13 (by decide) rfl (fun c13 => ?_) (fun c13 => ?_)
    · refine bq_iload_n (q := 21) G rfl dX9_itemOf_20 rfl ?_
      refine bq_bipush (q := 23) (v := 100) G (by decide) dX9_itemOf_21 rfl ?_
      refine bq_icmp_ne (t := 30) (q := 26) G dX9_itemOf_23 (by decide) rfl (fun c23 => ?_) (fun c23 => ?_)
      · refine bq_iload_n (q := 31) G rfl dX9_itemOf_30 rfl ?_
        refine bq_bipush (q := 33) (v := 109) G (by decide) dX9_itemOf_31 rfl ?_
        refine bq_icmp_ne (t := 40) (q := 36) G dX9_itemOf_33 (by decide) rfl (fun c33 => ?_) (fun c33 => ?_)
        · refine bq_iload_n (q := 41) G rfl dX9_itemOf_40 rfl ?_
          refine bq_bipush (q := 43) (v := 115) G (by decide) dX9_itemOf_41 rfl ?_
          refine bq_icmp_ne (t := 50) (q := 46) G dX9_itemOf_43 (by decide) rfl (fun c43 => ?_) (fun c43 => ?_)
          · refine bq_iload_n (q := 51) G rfl dX9_itemOf_50 rfl ?_
            refine bq_bipush (q := 53) (v := 98) G (by decide) dX9_itemOf_51 rfl ?_
            refine bq_icmp_ne (t := 60) (q := 56) G dX9_itemOf_53 (by decide) rfl (fun c53 => ?_) (fun c53 => ?_)
            · refine bq_iconst (q := 61) (v := -1) G (by decide) dX9_itemOf_60 rfl ?_
              exact bq_ri (hret _ _ dX9_itemOf_61) (by unfold tk_it; simp [*]) rfl rfl
            · refine bq_iconst (q := 57) (v := 5) G (by decide) dX9_itemOf_56 rfl ?_
              refine bq_goto (q := 61) G dX9_itemOf_57 (by decide) ?_
              exact bq_ri (hret _ _ dX9_itemOf_61) (by unfold tk_it; simp [*]) rfl rfl
          · refine bq_iconst (q := 47) (v := 4) G (by decide) dX9_itemOf_46 rfl ?_
            refine bq_goto (q := 61) G dX9_itemOf_47 (by decide) ?_
            exact bq_ri (hret _ _ dX9_itemOf_61) (by unfold tk_it; simp [*]) rfl rfl
        · refine bq_iconst (q := 37) (v := 3) G (by decide) dX9_itemOf_36 rfl ?_
          refine bq_goto (q := 61) G dX9_itemOf_37 (by decide) ?_
          exact bq_ri (hret _ _ dX9_itemOf_61) (by unfold tk_it; simp [*]) rfl rfl
      · refine bq_iconst (q := 27) (v := 2) G (by decide) dX9_itemOf_26 rfl ?_
        refine bq_goto (q := 61) G dX9_itemOf_27 (by decide) ?_
        exact bq_ri (hret _ _ dX9_itemOf_61) (by unfold tk_it; simp [*]) rfl rfl
    · refine bq_iconst (q := 17) (v := 1) G (by decide) dX9_itemOf_16 rfl ?_
      refine bq_goto (q := 61) G dX9_itemOf_17 (by decide) ?_
      exact bq_ri (hret _ _ dX9_itemOf_61) (by unfold tk_it; simp [*]) rfl rfl
  · refine bq_iconst (q := 7) (v := 0) G (by decide) dX9_itemOf_6 rfl ?_
    refine bq_goto (q := 61) G dX9_itemOf_7 (by decide) ?_
    exact bq_ri (hret _ _ dX9_itemOf_61) (by unfold tk_it; simp [*]) rfl rfl
set_option maxHeartbeats 1000000 in
set_option maxRecDepth 100000 in
theorem c_X9_letterAt {z : Nat} {I : bq_IR} {L : bq_LR} {k t : Nat} (ht : I 75 2 = nI t) (ht2 : t ≤ 200) (hk : k ≤ 1000) : bq_FC MX9_letterAt z [.ref (z + 75), .int (nI k)] 85 (bq_Rf z) I L 0 0 (some (.int (tk_lt t (I 76) k))) 85 (bq_Rf z) (I) (L) := by
  refine bq_ofI [some (.ref (z + 75)), some (.int (nI k))] rfl (Nat.le_of_ble_eq_true rfl) (by decide) rfl rfl ?_
  intro A G hret
  have G : bq_Cx cX9_letterAt RX9 2 z (bq_rm MX9_letterAt 0 0) "letterAt" A := G
  refine bq_iload_n (q := 1) G rfl dX9_letterAt_0 rfl ?_
  refine bq_aload_n (q := 2) G rfl dX9_letterAt_1 rfl ?_
  refine bq_geti (q := 5) G dX9_letterAt_2 rfl fl_X9_53 (by first | assumption | exact ⟨Nat.le_of_ble_eq_true rfl, rfl⟩) rfl ?_
  refine bq_icmp_ge (t := 17) (q := 8) G dX9_letterAt_5 (by decide) rfl (fun c5 => ?_) (fun c5 => ?_)
  · rw [ht] at c5
    have : t ≤ k := by
      rcases Nat.lt_or_ge k t with h | h
      · exact absurd c5 (nI_ge h (by omega))
      · exact h
    refine bq_iconst (q := 18) (v := -1) G (by decide) dX9_letterAt_17 rfl ?_
    exact bq_ri (hret _ _ dX9_letterAt_18) (by unfold tk_lt; rw [if_neg (by omega)]) rfl rfl
  · rw [ht] at c5
    have hkt : k < t := by
      rcases Nat.lt_or_ge k t with h | h
      · exact h
      · exact absurd (nI_le h (by omega)) c5
    refine bq_aload_n (q := 9) G rfl dX9_letterAt_8 rfl ?_
    refine bq_getr (q := 12) G dX9_letterAt_9 rfl fl_X9_7 (by first | assumption | exact ⟨Nat.le_of_ble_eq_true rfl, rfl⟩) (fun _ _ _ => rfl) (rf_75_1 z) ?_
    refine bq_iload_n (q := 13) G rfl dX9_letterAt_12 rfl ?_
    refine bq_iald (q := 14) (b := k) G dX9_letterAt_13 rfl (by first | assumption | exact ⟨Nat.le_of_ble_eq_true rfl, rfl⟩) (by first | with_reducible assumption | with_reducible exact rfl | exact bq_ixa rfl (by with_reducible assumption) | exact rfl | exact bq_ixa rfl rfl | exact bq_ixa (by with_reducible assumption) rfl | exact bq_ixa rfl (bq_ixa (by first | rfl | with_reducible assumption) (by first | rfl | with_reducible assumption))) (by first | with_reducible assumption | omega | decide) (by decide) ?_
    refine bq_goto (q := 18) G dX9_letterAt_14 (by decide) ?_
    exact bq_ri (hret _ _ dX9_letterAt_18) (by unfold tk_lt; rw [if_pos hkt]) rfl rfl
/-- the model, a token read: where it is -/
def tk_R (I J : bq_IR) (a b c d : Int32) : Prop := (J 75 12 = a ∧ J 75 13 = b ∧ J 75 14 = c ∧ J 75 15 = d) ∧ (∀ j, (j < 12 ∨ 15 < j) → J 75 j = I 75 j) ∧ ∀ x, x ≠ 75 → J x = I x
theorem tk_R.rf (I : bq_IR) : tk_R I I (I 75 12) (I 75 13) (I 75 14) (I 75 15) := ⟨⟨rfl, rfl, rfl, rfl⟩, fun _ _ => rfl, fun _ _ => rfl⟩
theorem tk_R.fr {I J : bq_IR} {a b c d : Int32} (h : tk_R I J a b c d) {i : Nat} (hi : 12 ≤ i ∧ i ≤ 15) (v : Int32) : (∀ j, (j < 12 ∨ 15 < j) → bq_sr J 75 (upd (J 75) i v) 75 j = I 75 j) ∧ ∀ x, x ≠ 75 → bq_sr J 75 (upd (J 75) i v) x = I x := by
  refine ⟨fun j hj => ?_, fun x hx => ?_⟩
  · rw [bq_sr_s, pk_un (by omega)]; exact h.2.1 j hj
  · rw [bq_sr_n hx]; exact h.2.2 x hx
theorem tk_R.p12 {I J : bq_IR} {a b c d : Int32} (h : tk_R I J a b c d) (v : Int32) : tk_R I (bq_sr J 75 (upd (J 75) 12 v)) v b c d := by
  refine ⟨⟨?_, ?_, ?_, ?_⟩, h.fr (by omega) v⟩
  · rw [bq_sr_s, pk_us]
  · rw [bq_sr_s, pk_un (by decide)]; exact h.1.2.1
  · rw [bq_sr_s, pk_un (by decide)]; exact h.1.2.2.1
  · rw [bq_sr_s, pk_un (by decide)]; exact h.1.2.2.2
theorem tk_R.p13 {I J : bq_IR} {a b c d : Int32} (h : tk_R I J a b c d) (v : Int32) : tk_R I (bq_sr J 75 (upd (J 75) 13 v)) a v c d := by
  refine ⟨⟨?_, ?_, ?_, ?_⟩, h.fr (by omega) v⟩
  · rw [bq_sr_s, pk_un (by decide)]; exact h.1.1
  · rw [bq_sr_s, pk_us]
  · rw [bq_sr_s, pk_un (by decide)]; exact h.1.2.2.1
  · rw [bq_sr_s, pk_un (by decide)]; exact h.1.2.2.2
theorem tk_R.p14 {I J : bq_IR} {a b c d : Int32} (h : tk_R I J a b c d) (v : Int32) : tk_R I (bq_sr J 75 (upd (J 75) 14 v)) a b v d := by
  refine ⟨⟨?_, ?_, ?_, ?_⟩, h.fr (by omega) v⟩
  · rw [bq_sr_s, pk_un (by decide)]; exact h.1.1
  · rw [bq_sr_s, pk_un (by decide)]; exact h.1.2.1
  · rw [bq_sr_s, pk_us]
  · rw [bq_sr_s, pk_un (by decide)]; exact h.1.2.2.2
theorem tk_R.p15 {I J : bq_IR} {a b c d : Int32} (h : tk_R I J a b c d) (v : Int32) : tk_R I (bq_sr J 75 (upd (J 75) 15 v)) a b c v := by
  refine ⟨⟨?_, ?_, ?_, ?_⟩, h.fr (by omega) v⟩
  · rw [bq_sr_s, pk_un (by decide)]; exact h.1.1
  · rw [bq_sr_s, pk_un (by decide)]; exact h.1.2.1
  · rw [bq_sr_s, pk_un (by decide)]; exact h.1.2.2.1
  · rw [bq_sr_s, pk_us]
def tk_M (I J : bq_IR) (t k : Nat) : Prop := tk_R I J (nI (tk_N t (I 76) k)) (tk_S t (I 76) k) (nI (tk_B t (I 76) k)) (tk_V t (I 76) k)
set_option maxHeartbeats 1000000 in
set_option maxRecDepth 100000 in
theorem c_X9_token {z : Nat} {I : bq_IR} {L : bq_LR} {t k : Nat} (ht : I 75 2 = nI t) (ht2 : t ≤ 200) (hk : k ≤ t) (ha : I 75 12 = nI k) : bq_FV MX9_token z [.ref (z + 75)] 85 (bq_Rf z) I L (fun J L' => tk_M I J t k ∧ L' = L) := by
  refine bq_FVof [some (.ref (z + 75)), none] rfl (Nat.le_of_ble_eq_true rfl) (by decide) rfl ?_
  intro A G hret
  have G : bq_Cx cX9_token RX9 2 z (bq_rm MX9_token 0 0) "token" A := G
  have lat : ∀ {J : bq_IR} {q : Nat} {x a b c d : Int32}, tk_R I J a b c d → x = nI q → q ≤ 1000 → bq_FC MX9_letterAt z [.ref (z + 75), .int x] 85 (bq_Rf z) J L 0 0 (some (.int (tk_lt t (I 76) q))) 85 (bq_Rf z) J L := by
    intro J q x a b c d h1 h2 h3
    have h := c_X9_letterAt (z := z) (L := L) (I := J) (k := q) ((h1.2.1 2 (by omega)).trans ht) ht2 h3
    rw [h1.2.2 76 (by decide), ← h2] at h
    exact h
  obtain ⟨hb1, hb2⟩ := tk_B_in (f := I 76) hk
  -- digits
  have dl : ∀ d q i, t - q ≤ d → q ≤ t → q = tk_B t (I 76) k + 1 + i → tk_S t (I 76) k = 2 → tk_B t (I 76) k < t → tk_E t (I 76) q = tk_E t (I 76) (tk_B t (I 76) k + 1) → ∀ J : bq_IR, tk_R I J (nI q) (tk_S t (I 76) k) (nI (tk_B t (I 76) k)) (tk_mv (I 76) (tk_B t (I 76) k) i) → A 0 0 130 [some (.ref (z + 75)), some (.int (I 76 (tk_B t (I 76) k)))] [] 85 (bq_Rf z) J L := by
    intro d
    induction d with
    | zero =>
      intro q i hd hq hi hS hBt hE J hJ
      have eq : q = t := by omega
      have en : ¬ (48 ≤ tk_lt t (I 76) q ∧ tk_lt t (I 76) q ≤ 57) := by
        unfold tk_lt
        rw [if_neg (by omega)]
        decide
      have e1 := tk_E_n en
      refine bq_aload_n (q := 131) G rfl dX9_token_130 rfl ?_
      refine bq_aload_n (q := 132) G rfl dX9_token_131 rfl ?_
      refine bq_geti (q := 135) G dX9_token_132 rfl fl_X9_57 (by first | assumption | exact ⟨Nat.le_of_ble_eq_true rfl, rfl⟩) rfl ?_
      refine bq_callv (q := 138) G dX9_token_135 rfl cl_X9_60 (lat hJ hJ.1.1 (by omega)) rfl (by first | assumption | exact ⟨Nat.le_of_ble_eq_true rfl, rfl⟩) rfl ⟨Nat.le_of_ble_eq_true rfl, Nat.le_of_ble_eq_true rfl⟩ (Nat.le_of_ble_eq_true rfl) ⟨Nat.le_of_ble_eq_true rfl, Nat.le_of_ble_eq_true rfl⟩ rfl ?_
      refine bq_calls (q := 141) G dX9_token_138 rfl cl_X9_70 (c_X9_isDigit) rfl rfl ⟨Nat.le_of_ble_eq_true rfl, Nat.le_of_ble_eq_true rfl⟩ (Nat.le_of_ble_eq_true rfl) ⟨Nat.le_of_ble_eq_true rfl, Nat.le_of_ble_eq_true rfl⟩ rfl ?_
      first | refine bq_ifb_eq (t := 202) (q := 144) G dX9_token_141 (by decide) rfl (fun c141 => ?_) (fun c141 => ?_) | refine bq_if_eq (t := 202) (q := 144) G dX9_token_141 (by decide) rfl (fun c141 => ?_) (fun c141 => ?_)
      · refine hret _ _ _ _ dX9_token_202 ⟨?_, rfl⟩
        unfold tk_M
        have eN : tk_N t (I 76) k = q := by unfold tk_N; rw [hS, if_neg (by decide), if_pos rfl, ← hE, e1]
        have eV : tk_V t (I 76) k = tk_mv (I 76) (tk_B t (I 76) k) i := by unfold tk_V; rw [if_pos hS, ← hE, e1, hi, show tk_B t (I 76) k + 1 + i - (tk_B t (I 76) k + 1) = i by omega]
        rw [eN, eV]
        exact hJ
      · exact absurd c141 en
    | succ d ih =>
      intro q i hd hq hi hS hBt hE J hJ
      refine bq_aload_n (q := 131) G rfl dX9_token_130 rfl ?_
      refine bq_aload_n (q := 132) G rfl dX9_token_131 rfl ?_
      refine bq_geti (q := 135) G dX9_token_132 rfl fl_X9_57 (by first | assumption | exact ⟨Nat.le_of_ble_eq_true rfl, rfl⟩) rfl ?_
      refine bq_callv (q := 138) G dX9_token_135 rfl cl_X9_60 (lat hJ hJ.1.1 (by omega)) rfl (by first | assumption | exact ⟨Nat.le_of_ble_eq_true rfl, rfl⟩) rfl ⟨Nat.le_of_ble_eq_true rfl, Nat.le_of_ble_eq_true rfl⟩ (Nat.le_of_ble_eq_true rfl) ⟨Nat.le_of_ble_eq_true rfl, Nat.le_of_ble_eq_true rfl⟩ rfl ?_
      refine bq_calls (q := 141) G dX9_token_138 rfl cl_X9_70 (c_X9_isDigit) rfl rfl ⟨Nat.le_of_ble_eq_true rfl, Nat.le_of_ble_eq_true rfl⟩ (Nat.le_of_ble_eq_true rfl) ⟨Nat.le_of_ble_eq_true rfl, Nat.le_of_ble_eq_true rfl⟩ rfl ?_
      first | refine bq_ifb_eq (t := 202) (q := 144) G dX9_token_141 (by decide) rfl (fun c141 => ?_) (fun c141 => ?_) | refine bq_if_eq (t := 202) (q := 144) G dX9_token_141 (by decide) rfl (fun c141 => ?_) (fun c141 => ?_)
      · have e1 := tk_E_n c141
        refine hret _ _ _ _ dX9_token_202 ⟨?_, rfl⟩
        unfold tk_M
        have eN : tk_N t (I 76) k = q := by unfold tk_N; rw [hS, if_neg (by decide), if_pos rfl, ← hE, e1]
        have eV : tk_V t (I 76) k = tk_mv (I 76) (tk_B t (I 76) k) i := by unfold tk_V; rw [if_pos hS, ← hE, e1, hi, show tk_B t (I 76) k + 1 + i - (tk_B t (I 76) k + 1) = i by omega]
        rw [eN, eV]
        exact hJ
      · obtain ⟨e1, e2, e3⟩ := tk_E_s c141
        have st : ∀ v : Int32, v = tk_mv (I 76) (tk_B t (I 76) k) (i + 1) → A 0 0 186 [some (.ref (z + 75)), some (.int (I 76 (tk_B t (I 76) k)))] [.int v, .ref (z + 75)] 85 (bq_Rf z) J L := by
          intro v hv
          refine bq_puti (q := 189) G dX9_token_186 rfl fl_X9_76 (by first | assumption | exact ⟨Nat.le_of_ble_eq_true rfl, rfl⟩) rfl rfl ?_
          refine bq_nameI (P := fun J => tk_R I J _ _ _ _) (hJ.p15 _) (fun J1 r1 => ?_)
          refine bq_aload_n (q := 190) G rfl dX9_token_189 rfl ?_
          refine bq_dup (q := 191) G rfl dX9_token_190 rfl ?_
          refine bq_geti (q := 194) G dX9_token_191 rfl fl_X9_57 (by first | assumption | exact ⟨Nat.le_of_ble_eq_true rfl, rfl⟩) rfl ?_
          refine bq_iconst (q := 195) (v := 1) G (by decide) dX9_token_194 rfl ?_
          refine bq_iadd (q := 196) G dX9_token_195 rfl ?_
          refine bq_puti (q := 199) G dX9_token_196 rfl fl_X9_57 (by first | assumption | exact ⟨Nat.le_of_ble_eq_true rfl, rfl⟩) rfl rfl ?_
          refine bq_goto (q := 130) G dX9_token_199 (by decide) ?_
          have r2 := r1.p12 (J1 75 12 + 1)
          rw [r1.1.1, nI_1] at r2 ⊢
          rw [hv] at r2
          exact ih (q + 1) (i + 1) (by omega) (by omega) (by omega) hS hBt (e1.symm.trans hE) _ r2
        have e9 : tk_mv (I 76) (tk_B t (I 76) k) (i + 1) = if I 76 (tk_B t (I 76) k) = 48 ∨ 99 < tk_mv (I 76) (tk_B t (I 76) k) i then 1000 else 10 * tk_mv (I 76) (tk_B t (I 76) k) i + I 76 (tk_B t (I 76) k + 1 + i) - 48 := rfl
        refine bq_aload_n (q := 145) G rfl dX9_token_144 rfl ?_
        refine bq_iload_n (q := 146) G rfl dX9_token_145 rfl ?_
        refine bq_bipush (q := 148) (v := 48) G (by decide) dX9_token_146 rfl ?_
        refine bq_icmp_eq (t := 160) (q := 151) G dX9_token_148 (by decide) rfl (fun c148 => ?_) (fun c148 => ?_)
        · refine bq_sipush (q := 163) (v := 1000) G (by decide) dX9_token_160 rfl ?_
          refine bq_goto (q := 186) G dX9_token_163 (by decide) ?_
          exact st _ (by rw [e9, if_pos (Or.inl c148)])
        · refine bq_aload_n (q := 152) G rfl dX9_token_151 rfl ?_
          refine bq_geti (q := 155) G dX9_token_152 rfl fl_X9_76 (by first | assumption | exact ⟨Nat.le_of_ble_eq_true rfl, rfl⟩) rfl ?_
          refine bq_bipush (q := 157) (v := 99) G (by decide) dX9_token_155 rfl ?_
          refine bq_icmp_le (t := 166) (q := 160) G dX9_token_157 (by decide) rfl (fun c157 => ?_) (fun c157 => ?_)
          · rw [hJ.1.2.2.2] at c157
            refine bq_bipush (q := 168) (v := 10) G (by decide) dX9_token_166 rfl ?_
            refine bq_aload_n (q := 169) G rfl dX9_token_168 rfl ?_
            refine bq_geti (q := 172) G dX9_token_169 rfl fl_X9_76 (by first | assumption | exact ⟨Nat.le_of_ble_eq_true rfl, rfl⟩) rfl ?_
            refine bq_imul (q := 173) G dX9_token_172 rfl ?_
            refine bq_aload_n (q := 174) G rfl dX9_token_173 rfl ?_
            refine bq_getr (q := 177) G dX9_token_174 rfl fl_X9_7 (by first | assumption | exact ⟨Nat.le_of_ble_eq_true rfl, rfl⟩) (fun _ _ _ => rfl) (rf_75_1 z) ?_
            refine bq_aload_n (q := 178) G rfl dX9_token_177 rfl ?_
            refine bq_geti (q := 181) G dX9_token_178 rfl fl_X9_57 (by first | assumption | exact ⟨Nat.le_of_ble_eq_true rfl, rfl⟩) rfl ?_
            refine bq_iald (q := 182) (b := q) G dX9_token_181 rfl (by first | assumption | exact ⟨Nat.le_of_ble_eq_true rfl, rfl⟩) hJ.1.1 (by first | with_reducible assumption | omega | decide) (by decide) ?_
            refine bq_iadd (q := 183) G dX9_token_182 rfl ?_
            refine bq_bipush (q := 185) (v := 48) G (by decide) dX9_token_183 rfl ?_
            refine bq_isub (q := 186) G dX9_token_185 rfl ?_
            exact st _ (by rw [e9, if_neg (fun h => h.elim c148 (fun h => absurd h (Int32.not_lt.mpr c157))), hJ.1.2.2.2, hJ.2.2 76 (by decide), hi])
          · rw [hJ.1.2.2.2] at c157
            refine bq_sipush (q := 163) (v := 1000) G (by decide) dX9_token_160 rfl ?_
            refine bq_goto (q := 186) G dX9_token_163 (by decide) ?_
            exact st _ (by rw [e9, if_pos (Or.inr (Int32.not_le.mp c157))])
  -- behind the blanks
  have sb : ∀ J : bq_IR, ∀ b' c' d' : Int32, tk_R I J (nI (tk_B t (I 76) k)) b' c' d' → A 0 0 26 [some (.ref (z + 75)), none] [] 85 (bq_Rf z) J L := by
    intro J b' c' d' hJ
    refine bq_aload_n (q := 27) G rfl dX9_token_26 rfl ?_
    refine bq_aload_n (q := 28) G rfl dX9_token_27 rfl ?_
    refine bq_geti (q := 31) G dX9_token_28 rfl fl_X9_57 (by first | assumption | exact ⟨Nat.le_of_ble_eq_true rfl, rfl⟩) rfl ?_
    refine bq_puti (q := 34) G dX9_token_31 rfl fl_X9_64 (by first | assumption | exact ⟨Nat.le_of_ble_eq_true rfl, rfl⟩) rfl rfl ?_
    refine bq_nameI (P := fun J => tk_R I J _ _ _ _) (hJ.p14 _) (fun J1 r1 => ?_)
    rw [hJ.1.1] at r1
    have so : ∀ sv : Int32, sv = tk_S t (I 76) k → A 0 0 85 [some (.ref (z + 75)), some (.int (tk_c t (I 76) k))] [.int sv, .ref (z + 75)] 85 (bq_Rf z) J1 L := by
      intro sv hs
      refine bq_puti (q := 88) G dX9_token_85 rfl fl_X9_73 (by first | assumption | exact ⟨Nat.le_of_ble_eq_true rfl, rfl⟩) rfl rfl ?_
      refine bq_nameI (P := fun J => tk_R I J _ _ _ _) (r1.p13 _) (fun J2 r2 => ?_)
      refine bq_aload_n (q := 89) G rfl dX9_token_88 rfl ?_
      refine bq_iload_n (q := 90) G rfl dX9_token_89 rfl ?_
      refine bq_puti (q := 93) G dX9_token_90 rfl fl_X9_76 (by first | assumption | exact ⟨Nat.le_of_ble_eq_true rfl, rfl⟩) rfl rfl ?_
      refine bq_nameI (P := fun J => tk_R I J _ _ _ _) (r2.p15 _) (fun J3 r3 => ?_)
      rw [hs] at r3
      have af : ∀ (v : Int32) (p : Nat), v = nI p → (¬ tk_S t (I 76) k = 2 → p = tk_N t (I 76) k) → (tk_S t (I 76) k = 2 → p = tk_B t (I 76) k + 1) → A 0 0 111 [some (.ref (z + 75)), some (.int (tk_c t (I 76) k))] [.int v, .ref (z + 75)] 85 (bq_Rf z) J3 L := by
        intro v p hv hn hy
        refine bq_puti (q := 114) G dX9_token_111 rfl fl_X9_57 (by first | assumption | exact ⟨Nat.le_of_ble_eq_true rfl, rfl⟩) rfl rfl ?_
        refine bq_nameI (P := fun J => tk_R I J _ _ _ _) (r3.p12 _) (fun J4 r4 => ?_)
        refine bq_aload_n (q := 115) G rfl dX9_token_114 rfl ?_
        refine bq_geti (q := 118) G dX9_token_115 rfl fl_X9_73 (by first | assumption | exact ⟨Nat.le_of_ble_eq_true rfl, rfl⟩) rfl ?_
        refine bq_iconst (q := 119) (v := 2) G (by decide) dX9_token_118 rfl ?_
        refine bq_icmp_ne (t := 202) (q := 122) G dX9_token_119 (by decide) rfl (fun c119 => ?_) (fun c119 => ?_)
        · rw [r4.1.2.1] at c119
          refine hret _ _ _ _ dX9_token_202 ⟨?_, rfl⟩
          unfold tk_M
          rw [hv, hn c119] at r4
          have eV : tk_V t (I 76) k = tk_c t (I 76) k := by unfold tk_V; rw [if_neg c119]
          rw [eV]
          exact r4
        · rw [r4.1.2.1] at c119
          have hdig : 48 ≤ tk_c t (I 76) k ∧ tk_c t (I 76) k ≤ 57 := by
            unfold tk_S at c119
            split at c119
            · exact absurd c119 (by decide)
            · split at c119
              · exact absurd c119 (by decide)
              · split at c119
                · assumption
                · split at c119 <;> exact absurd c119 (by decide)
          have hBt : tk_B t (I 76) k < t := (tk_E_s (k := tk_B t (I 76) k) hdig).2.1
          have ec : tk_c t (I 76) k = I 76 (tk_B t (I 76) k) := if_pos hBt
          rw [ec]
          refine bq_aload_n (q := 123) G rfl dX9_token_122 rfl ?_
          refine bq_iload_n (q := 124) G rfl dX9_token_123 rfl ?_
          refine bq_bipush (q := 126) (v := 48) G (by decide) dX9_token_124 rfl ?_
          refine bq_isub (q := 127) G dX9_token_126 rfl ?_
          refine bq_puti (q := 130) G dX9_token_127 rfl fl_X9_76 (by first | assumption | exact ⟨Nat.le_of_ble_eq_true rfl, rfl⟩) rfl rfl ?_
          refine bq_nameI (P := fun J => tk_R I J _ _ _ _) (r4.p15 _) (fun J5 r5 => ?_)
          rw [hv, hy c119] at r5
          exact dl (t - (tk_B t (I 76) k + 1)) (tk_B t (I 76) k + 1) 0 (by omega) (by omega) rfl c119 hBt rfl J5 r5
      refine bq_aload_n (q := 94) G rfl dX9_token_93 rfl ?_
      refine bq_dup (q := 95) G rfl dX9_token_94 rfl ?_
      refine bq_geti (q := 98) G dX9_token_95 rfl fl_X9_57 (by first | assumption | exact ⟨Nat.le_of_ble_eq_true rfl, rfl⟩) rfl ?_
      refine bq_aload_n (q := 99) G rfl dX9_token_98 rfl ?_
      refine bq_geti (q := 102) G dX9_token_99 rfl fl_X9_73 (by first | assumption | exact ⟨Nat.le_of_ble_eq_true rfl, rfl⟩) rfl ?_
      first | refine bq_ifb_ne (t := 109) (q := 105) G dX9_token_102 (by decide) rfl (fun c102 => ?_) (fun c102 => ?_) | refine bq_if_ne (t := 109) (q := 105) G dX9_token_102 (by decide) rfl (fun c102 => ?_) (fun c102 => ?_)
      · rw [r3.1.2.1] at c102
        refine bq_iconst (q := 110) (v := 1) G (by decide) dX9_token_109 rfl ?_
        refine bq_iadd (q := 111) G dX9_token_110 rfl ?_
        refine af _ (tk_B t (I 76) k + 1) (by rw [r3.1.1, nI_1]) (fun h => ?_) (fun _ => rfl)
        unfold tk_N
        rw [if_neg c102, if_neg h]
      · rw [r3.1.2.1] at c102
        refine bq_iconst (q := 106) (v := 0) G (by decide) dX9_token_105 rfl ?_
        refine bq_goto (q := 110) G dX9_token_106 (by decide) ?_
        refine bq_iadd (q := 111) G dX9_token_110 rfl ?_
        refine af _ (tk_B t (I 76) k) (by rw [r3.1.1, Int32.add_zero]) (fun h => ?_) (fun h => ?_)
        · unfold tk_N
          rw [if_pos c102]
        · rw [h] at c102; exact absurd c102 (by decide)
    refine bq_aload_n (q := 35) G rfl dX9_token_34 rfl ?_
    refine bq_aload_n (q := 36) G rfl dX9_token_35 rfl ?_
    refine bq_geti (q := 39) G dX9_token_36 rfl fl_X9_57 (by first | assumption | exact ⟨Nat.le_of_ble_eq_true rfl, rfl⟩) rfl ?_
    refine bq_callv (q := 42) G dX9_token_39 rfl cl_X9_60 (lat r1 r1.1.1 (by omega)) rfl (by first | assumption | exact ⟨Nat.le_of_ble_eq_true rfl, rfl⟩) rfl ⟨Nat.le_of_ble_eq_true rfl, Nat.le_of_ble_eq_true rfl⟩ (Nat.le_of_ble_eq_true rfl) ⟨Nat.le_of_ble_eq_true rfl, Nat.le_of_ble_eq_true rfl⟩ rfl ?_
    refine bq_istore_n (q := 43) (ls' := [_, _]) G dX9_token_42 rfl (by decide) rfl rfl ?_
    rw [show tk_lt t (I 76) (tk_B t (I 76) k) = tk_c t (I 76) k from rfl]
    refine bq_aload_n (q := 44) G rfl dX9_token_43 rfl ?_
    refine bq_iload_n (q := 45) G rfl dX9_token_44 rfl ?_
    refine bq_if_ge (t := 52) (q := 48) G dX9_token_45 (by decide) rfl (fun c45 => ?_) (fun c45 => ?_)
    · refine bq_iload_n (q := 53) G rfl dX9_token_52 rfl ?_
      refine bq_calls (q := 56) G dX9_token_53 rfl cl_X9_67 (c_X9_itemOf) rfl rfl ⟨Nat.le_of_ble_eq_true rfl, Nat.le_of_ble_eq_true rfl⟩ (Nat.le_of_ble_eq_true rfl) ⟨Nat.le_of_ble_eq_true rfl, Nat.le_of_ble_eq_true rfl⟩ rfl ?_
      refine bq_if_lt (t := 63) (q := 59) G dX9_token_56 (by decide) rfl (fun c56 => ?_) (fun c56 => ?_)
      · refine bq_iload_n (q := 64) G rfl dX9_token_63 rfl ?_
        refine bq_calls (q := 67) G dX9_token_64 rfl cl_X9_70 (c_X9_isDigit) rfl rfl ⟨Nat.le_of_ble_eq_true rfl, Nat.le_of_ble_eq_true rfl⟩ (Nat.le_of_ble_eq_true rfl) ⟨Nat.le_of_ble_eq_true rfl, Nat.le_of_ble_eq_true rfl⟩ rfl ?_
        first | refine bq_ifb_eq (t := 74) (q := 70) G dX9_token_67 (by decide) rfl (fun c67 => ?_) (fun c67 => ?_) | refine bq_if_eq (t := 74) (q := 70) G dX9_token_67 (by decide) rfl (fun c67 => ?_) (fun c67 => ?_)
        · refine bq_iload_n (q := 75) G rfl dX9_token_74 rfl ?_
          refine bq_bipush (q := 77) (v := 59) G (by decide) dX9_token_75 rfl ?_
          refine bq_icmp_ne (t := 84) (q := 80) G dX9_token_77 (by decide) rfl (fun c77 => ?_) (fun c77 => ?_)
          · refine bq_iconst (q := 85) (v := 4) G (by decide) dX9_token_84 rfl ?_
            exact so _ (by unfold tk_S; rw [if_neg (Int32.not_lt.mpr c45), if_neg (fun h => h c56), if_neg c67, if_neg c77])
          · refine bq_iconst (q := 81) (v := 3) G (by decide) dX9_token_80 rfl ?_
            refine bq_goto (q := 85) G dX9_token_81 (by decide) ?_
            exact so _ (by unfold tk_S; rw [if_neg (Int32.not_lt.mpr c45), if_neg (fun h => h c56), if_neg c67, if_pos c77])
        · refine bq_iconst (q := 71) (v := 2) G (by decide) dX9_token_70 rfl ?_
          refine bq_goto (q := 85) G dX9_token_71 (by decide) ?_
          exact so _ (by unfold tk_S; rw [if_neg (Int32.not_lt.mpr c45), if_neg (fun h => h c56), if_pos c67])
      · refine bq_iconst (q := 60) (v := 1) G (by decide) dX9_token_59 rfl ?_
        refine bq_goto (q := 85) G dX9_token_60 (by decide) ?_
        exact so _ (by unfold tk_S; rw [if_neg (Int32.not_lt.mpr c45), if_pos c56])
    · refine bq_iconst (q := 49) (v := 0) G (by decide) dX9_token_48 rfl ?_
      refine bq_goto (q := 85) G dX9_token_49 (by decide) ?_
      exact so _ (by unfold tk_S; rw [if_pos (Int32.not_le.mp c45)])
  -- blanks
  have bl : ∀ d q, t - q ≤ d → q ≤ t → ∀ (J : bq_IR) (b' c' d' : Int32), tk_R I J (nI q) b' c' d' → tk_B t (I 76) q = tk_B t (I 76) k → A 0 0 0 [some (.ref (z + 75)), none] [] 85 (bq_Rf z) J L := by
    intro d
    induction d with
    | zero =>
      intro q hd hq J b' c' d' hJ hB
      refine bq_aload_n (q := 1) G rfl dX9_token_0 rfl ?_
      refine bq_aload_n (q := 2) G rfl dX9_token_1 rfl ?_
      refine bq_geti (q := 5) G dX9_token_2 rfl fl_X9_57 (by first | assumption | exact ⟨Nat.le_of_ble_eq_true rfl, rfl⟩) rfl ?_
      refine bq_callv (q := 8) G dX9_token_5 rfl cl_X9_60 (lat hJ hJ.1.1 (by omega)) rfl (by first | assumption | exact ⟨Nat.le_of_ble_eq_true rfl, rfl⟩) rfl ⟨Nat.le_of_ble_eq_true rfl, Nat.le_of_ble_eq_true rfl⟩ (Nat.le_of_ble_eq_true rfl) ⟨Nat.le_of_ble_eq_true rfl, Nat.le_of_ble_eq_true rfl⟩ rfl ?_
      refine bq_bipush (q := 10) (v := 32) G (by decide) dX9_token_8 rfl ?_
      refine bq_icmp_ne (t := 26) (q := 13) G dX9_token_10 (by decide) rfl (fun c10 => ?_) (fun c10 => ?_)
      · rw [tk_B_n c10] at hB
        rw [hB] at hJ
        exact sb J b' c' d' hJ
      · exfalso
        unfold tk_lt at c10
        rw [if_neg (by omega)] at c10
        exact absurd c10 (by decide)
    | succ d ih =>
      intro q hd hq J b' c' d' hJ hB
      refine bq_aload_n (q := 1) G rfl dX9_token_0 rfl ?_
      refine bq_aload_n (q := 2) G rfl dX9_token_1 rfl ?_
      refine bq_geti (q := 5) G dX9_token_2 rfl fl_X9_57 (by first | assumption | exact ⟨Nat.le_of_ble_eq_true rfl, rfl⟩) rfl ?_
      refine bq_callv (q := 8) G dX9_token_5 rfl cl_X9_60 (lat hJ hJ.1.1 (by omega)) rfl (by first | assumption | exact ⟨Nat.le_of_ble_eq_true rfl, rfl⟩) rfl ⟨Nat.le_of_ble_eq_true rfl, Nat.le_of_ble_eq_true rfl⟩ (Nat.le_of_ble_eq_true rfl) ⟨Nat.le_of_ble_eq_true rfl, Nat.le_of_ble_eq_true rfl⟩ rfl ?_
      refine bq_bipush (q := 10) (v := 32) G (by decide) dX9_token_8 rfl ?_
      refine bq_icmp_ne (t := 26) (q := 13) G dX9_token_10 (by decide) rfl (fun c10 => ?_) (fun c10 => ?_)
      · rw [tk_B_n c10] at hB
        rw [hB] at hJ
        exact sb J b' c' d' hJ
      · have hqt : q < t := by
          by_cases h : q < t
          · exact h
          · exfalso
            unfold tk_lt at c10
            rw [if_neg h] at c10
            exact absurd c10 (by decide)
        refine bq_aload_n (q := 14) G rfl dX9_token_13 rfl ?_
        refine bq_dup (q := 15) G rfl dX9_token_14 rfl ?_
        refine bq_geti (q := 18) G dX9_token_15 rfl fl_X9_57 (by first | assumption | exact ⟨Nat.le_of_ble_eq_true rfl, rfl⟩) rfl ?_
        refine bq_iconst (q := 19) (v := 1) G (by decide) dX9_token_18 rfl ?_
        refine bq_iadd (q := 20) G dX9_token_19 rfl ?_
        refine bq_puti (q := 23) G dX9_token_20 rfl fl_X9_57 (by first | assumption | exact ⟨Nat.le_of_ble_eq_true rfl, rfl⟩) rfl rfl ?_
        refine bq_goto (q := 0) G dX9_token_23 (by decide) ?_
        have r2 := hJ.p12 (J 75 12 + 1)
        rw [hJ.1.1, nI_1] at r2 ⊢
        exact ih (q + 1) (by omega) (by omega) _ b' c' d' r2 (by rw [← tk_B_s c10]; exact hB)
  have r0 := tk_R.rf I
  rw [ha] at r0
  exact bl (t - k) k (Nat.le_refl _) hk I _ _ _ r0 rfl
