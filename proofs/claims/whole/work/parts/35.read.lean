/-! items and the whole text -/
theorem tk_S0 {t : Nat} {f : Nat → Int32} {k : Nat} (hk : k ≤ t) (h : ¬ tk_S t f k = 0) : tk_B t f k < t := by
  by_cases hb : tk_B t f k < t
  · exact hb
  · exfalso
    apply h
    have e : tk_c t f k = -1 := if_neg hb
    unfold tk_S
    rw [e, if_pos (by decide)]
theorem tk_N_in {t : Nat} {f : Nat → Int32} {k : Nat} (hk : k ≤ t) : k ≤ tk_N t f k ∧ tk_N t f k ≤ t ∧ (¬ tk_S t f k = 0 → k < tk_N t f k) := by
  have hB := tk_B_in (f := f) hk
  unfold tk_N
  by_cases h0 : tk_S t f k = 0
  · rw [if_pos h0]; exact ⟨hB.1, hB.2, fun h => absurd h0 h⟩
  · have := tk_S0 hk h0
    rw [if_neg h0]
    split
    · have hE := tk_E_in (t := t) (f := f) (k := tk_B t f k + 1) (by omega)
      omega
    · omega
abbrev rd_X : Type := Nat ⊕ (Nat × (Nat → Int32))
def rd_num (t : Nat) (f : Nat → Int32) (pl : Nat) (lo hi : Int32) (k : Nat) (D : Nat → Int32) : rd_X := if tk_S t f k = 2 ∧ lo ≤ tk_V t f k ∧ tk_V t f k ≤ hi then .inr (tk_N t f k, upd D pl (tk_V t f k)) else .inl (tk_B t f k)
def rd_bind (x : rd_X) (g : Nat → (Nat → Int32) → rd_X) : rd_X := match x with | .inl s => .inl s | .inr p => g p.1 p.2
def rd_lo (i : Int32) : Int32 := if i = 1 ∨ i = 4 then 1 else 0
def rd_hi (i : Int32) : Int32 := if i = 1 ∨ i = 2 then 20 else if i = 4 then 8 else 99
def rd_item (t : Nat) (f : Nat → Int32) (s : Nat) (so va : Int32) (k m : Nat) (D : Nat → Int32) : rd_X :=
  if ¬ so = 1 ∨ tk_it va < 0 then .inl s
  else if tk_it va = 5 then (if m = 8 then .inl s else rd_bind (rd_num t f (8 + m) 1 64 k D) fun k1 D1 => rd_bind (rd_num t f (16 + m) 1 40 k1 D1) fun k2 D2 => rd_bind (rd_num t f (24 + m) 1 40 k2 D2) fun k3 D3 => .inr (k3, upd D3 5 (D3 5 + 1)))
  else if D 7 >>> (tk_it va &&& 31) &&& 1 = 1 then .inl s
  else rd_num t f (tk_it va).toNatClampNeg (rd_lo (tk_it va)) (rd_hi (tk_it va)) k (upd D 7 (D 7 ||| (1 <<< (tk_it va &&& 31))))
def rd_all (t : Nat) (f : Nat → Int32) : Nat → Nat → Nat → (Nat → Int32) → Nat ⊕ (Nat → Int32)
  | 0, _, _, _ => .inl 0
  | u + 1, k, m, D => if tk_S t f k = 0 then .inr D else match rd_item t f (tk_B t f k) (tk_S t f k) (tk_V t f k) (tk_N t f k) m D with
    | .inl s => .inl s
    | .inr p => if tk_S t f p.1 = 3 then rd_all t f u (tk_N t f p.1) (if tk_it (tk_V t f k) = 5 then m + 1 else m) (upd p.2 6 (p.2 6 + 1)) else .inl (tk_B t f p.1)
theorem rd_num_r {t : Nat} {f : Nat → Int32} {pl : Nat} {lo hi : Int32} {k : Nat} {D : Nat → Int32} {p : Nat × (Nat → Int32)} (h : rd_num t f pl lo hi k D = .inr p) : p = (tk_N t f k, upd D pl (tk_V t f k)) ∧ lo ≤ tk_V t f k ∧ tk_V t f k ≤ hi := by
  unfold rd_num at h
  split at h
  · rename_i hc; exact ⟨(Sum.inr.inj h).symm, hc.2⟩
  · cases h
theorem rd_bind_inr (p : Nat × (Nat → Int32)) (g : Nat → (Nat → Int32) → rd_X) : rd_bind (.inr p) g = g p.1 p.2 := rfl
theorem rd_bind_r {x : rd_X} {g : Nat → (Nat → Int32) → rd_X} {p : Nat × (Nat → Int32)} (h : rd_bind x g = .inr p) : ∃ q, x = .inr q ∧ g q.1 q.2 = .inr p := by
  cases x with
  | inl s => cases h
  | inr q => exact ⟨q, rfl, h⟩
theorem tk_it_or (v : Int32) : tk_it v = -1 ∨ ∃ i : Nat, i < 6 ∧ tk_it v = nI i := by
  unfold tk_it
  split
  · exact Or.inr ⟨0, by decide, rfl⟩
  · split
    · exact Or.inr ⟨1, by decide, rfl⟩
    · split
      · exact Or.inr ⟨2, by decide, rfl⟩
      · split
        · exact Or.inr ⟨3, by decide, rfl⟩
        · split
          · exact Or.inr ⟨4, by decide, rfl⟩
          · split
            · exact Or.inr ⟨5, by decide, rfl⟩
            · exact Or.inl rfl
/-- what a draft holds -/
def rd_ok (D : Nat → Int32) (m : Nat) : Prop := ((0 ≤ D 0 ∧ D 0 ≤ 99) ∧ (1 ≤ D 1 ∧ D 1 ≤ 20) ∧ (0 ≤ D 2 ∧ D 2 ≤ 20) ∧ (0 ≤ D 3 ∧ D 3 ≤ 99) ∧ (1 ≤ D 4 ∧ D 4 ≤ 8)) ∧ (D 5 = nI m ∧ m ≤ 8) ∧ ∀ b, b < m → (1 ≤ D (8 + b) ∧ D (8 + b) ≤ 64) ∧ (1 ≤ D (16 + b) ∧ D (16 + b) ≤ 40) ∧ (1 ≤ D (24 + b) ∧ D (24 + b) ≤ 40)
theorem rd_ok.hi {D : Nat → Int32} {m : Nat} (h : rd_ok D m) {i : Nat} (hi : i = 6 ∨ i = 7) (v : Int32) : rd_ok (upd D i v) m := by
  obtain ⟨⟨h0, h1, h2, h3, h4⟩, ⟨h5, h6⟩, hb⟩ := h
  refine ⟨⟨?_, ?_, ?_, ?_, ?_⟩, ⟨?_, h6⟩, fun b hb' => ?_⟩
  · rw [pk_un (by omega)]; exact h0
  · rw [pk_un (by omega)]; exact h1
  · rw [pk_un (by omega)]; exact h2
  · rw [pk_un (by omega)]; exact h3
  · rw [pk_un (by omega)]; exact h4
  · rw [pk_un (by omega)]; exact h5
  · rw [pk_un (by omega), pk_un (by omega), pk_un (by omega)]; exact hb b hb'
theorem rd_ok.set {D : Nat → Int32} {m i : Nat} (h : rd_ok D m) (hi : i < 5) {v : Int32} (hv : rd_lo (nI i) ≤ v ∧ v ≤ rd_hi (nI i)) : rd_ok (upd D i v) m := by
  obtain ⟨⟨h0, h1, h2, h3, h4⟩, ⟨h5, h6⟩, hb⟩ := h
  refine ⟨⟨?_, ?_, ?_, ?_, ?_⟩, ⟨?_, h6⟩, fun b hb' => ?_⟩
  · by_cases e : i = 0
    · subst e; rw [pk_us]; exact hv
    · rw [pk_un (by omega)]; exact h0
  · by_cases e : i = 1
    · subst e; rw [pk_us]; exact hv
    · rw [pk_un (by omega)]; exact h1
  · by_cases e : i = 2
    · subst e; rw [pk_us]; exact hv
    · rw [pk_un (by omega)]; exact h2
  · by_cases e : i = 3
    · subst e; rw [pk_us]; exact hv
    · rw [pk_un (by omega)]; exact h3
  · by_cases e : i = 4
    · subst e; rw [pk_us]; exact hv
    · rw [pk_un (by omega)]; exact h4
  · rw [pk_un (by omega)]; exact h5
  · rw [pk_un (by omega), pk_un (by omega), pk_un (by omega)]; exact hb b hb'
theorem rd_ok.broom {D : Nat → Int32} {m : Nat} (h : rd_ok D m) (hm : m < 8) {u v w : Int32} (hu : 1 ≤ u ∧ u ≤ 64) (hv : 1 ≤ v ∧ v ≤ 40) (hw : 1 ≤ w ∧ w ≤ 40) : rd_ok (upd (upd (upd (upd D (8 + m) u) (16 + m) v) (24 + m) w) 5 (nI (m + 1))) (m + 1) := by
  obtain ⟨⟨h0, h1, h2, h3, h4⟩, ⟨h5, h6⟩, hb⟩ := h
  refine ⟨⟨?_, ?_, ?_, ?_, ?_⟩, ⟨pk_us, by omega⟩, fun b hb' => ?_⟩
  · rw [pk_un (by omega), pk_un (by omega), pk_un (by omega), pk_un (by omega)]; exact h0
  · rw [pk_un (by omega), pk_un (by omega), pk_un (by omega), pk_un (by omega)]; exact h1
  · rw [pk_un (by omega), pk_un (by omega), pk_un (by omega), pk_un (by omega)]; exact h2
  · rw [pk_un (by omega), pk_un (by omega), pk_un (by omega), pk_un (by omega)]; exact h3
  · rw [pk_un (by omega), pk_un (by omega), pk_un (by omega), pk_un (by omega)]; exact h4
  · by_cases e : b = m
    · subst e
      rw [pk_un (j := 8 + b) (by omega), pk_un (j := 8 + b) (by omega), pk_un (j := 8 + b) (by omega), pk_us, pk_un (j := 16 + b) (by omega), pk_un (j := 16 + b) (by omega), pk_us, pk_un (j := 24 + b) (by omega), pk_us]
      exact ⟨hu, hv, hw⟩
    · rw [pk_un (j := 8 + b) (by omega), pk_un (j := 8 + b) (by omega), pk_un (j := 8 + b) (by omega), pk_un (j := 8 + b) (by omega), pk_un (j := 16 + b) (by omega), pk_un (j := 16 + b) (by omega), pk_un (j := 16 + b) (by omega), pk_un (j := 16 + b) (by omega), pk_un (j := 24 + b) (by omega), pk_un (j := 24 + b) (by omega), pk_un (j := 24 + b) (by omega), pk_un (j := 24 + b) (by omega)]
      exact hb b (by omega)
theorem rd_item_r {t : Nat} {f : Nat → Int32} {s : Nat} {so va : Int32} {k m : Nat} {D : Nat → Int32} {p : Nat × (Nat → Int32)} (hk : k ≤ t) (hD : rd_ok D m) (h : rd_item t f s so va k m D = .inr p) : (k ≤ p.1 ∧ p.1 ≤ t) ∧ rd_ok p.2 (if tk_it va = 5 then m + 1 else m) := by
  unfold rd_item at h
  split at h
  · cases h
  · rename_i h1
    split at h
    · rename_i h5
      split at h
      · cases h
      · rename_i h8
        obtain ⟨q1, e1, h⟩ := rd_bind_r h
        obtain ⟨q2, e2, h⟩ := rd_bind_r h
        obtain ⟨q3, e3, h⟩ := rd_bind_r h
        obtain ⟨r1, a1⟩ := rd_num_r e1
        obtain ⟨r2, a2⟩ := rd_num_r e2
        obtain ⟨r3, a3⟩ := rd_num_r e3
        have n1 := tk_N_in (f := f) hk
        have h := (Sum.inr.inj h).symm
        subst h
        subst r1
        have n2 := tk_N_in (f := f) n1.2.1
        subst r2
        have n3 := tk_N_in (f := f) n2.2.1
        subst r3
        rw [if_pos h5]
        refine ⟨⟨Nat.le_trans n1.1 (Nat.le_trans n2.1 n3.1), n3.2.1⟩, ?_⟩
        have hm := hD.2.1.2
        have e5 : upd (upd (upd D (8 + m) (tk_V t f k)) (16 + m) (tk_V t f (tk_N t f k))) (24 + m) (tk_V t f (tk_N t f (tk_N t f k))) 5 + 1 = nI (m + 1) := by
          rw [pk_un (by omega), pk_un (by omega), pk_un (by omega), hD.2.1.1, nI_1]
        show rd_ok (upd (upd (upd (upd D (8 + m) (tk_V t f k)) (16 + m) (tk_V t f (tk_N t f k))) (24 + m) (tk_V t f (tk_N t f (tk_N t f k)))) 5 _) (m + 1)
        rw [e5]
        exact hD.broom (by omega) a1 a2 a3
    · rename_i h5
      split at h
      · cases h
      · obtain ⟨r1, a1⟩ := rd_num_r h
        subst r1
        have n1 := tk_N_in (f := f) hk
        rw [if_neg h5]
        refine ⟨⟨n1.1, n1.2.1⟩, ?_⟩
        rcases tk_it_or va with e | ⟨i, hi, e⟩
        · exact absurd (Or.inr (by rw [e]; decide)) h1
        · have hi5 : i < 5 := by
            rcases Nat.lt_or_ge i 5 with h | h
            · exact h
            · exact absurd (by rw [e, show i = 5 by omega]; rfl) h5
          rw [e] at a1 ⊢
          rw [nI_clamp (by omega)]
          exact (hD.hi (Or.inr rfl) _).set hi5 a1
/-- the model while it reads -/
def rd_M (I J : bq_IR) (t : Nat) (k : Nat) (D : Nat → Int32) : Prop := (J 75 12 = nI k ∧ J 78 = D) ∧ (∀ j, (j < 12 ∨ 15 < j) → J 75 j = I 75 j) ∧ ∀ x, x ≠ 75 → x ≠ 78 → J x = I x
theorem rd_M.tok {I J K : bq_IR} {t k : Nat} {D : Nat → Int32} (h : rd_M I J t k D) (hK : tk_M J K t k) : rd_M I K t (tk_N t (I 76) k) D ∧ K 75 13 = tk_S t (I 76) k ∧ K 75 14 = nI (tk_B t (I 76) k) ∧ K 75 15 = tk_V t (I 76) k := by
  have e76 : J 76 = I 76 := h.2.2 76 (by decide) (by decide)
  unfold tk_M at hK
  rw [e76] at hK
  obtain ⟨⟨a, b, c, d⟩, e, g⟩ := hK
  exact ⟨⟨⟨a, (g 78 (by decide)).trans h.1.2⟩, fun j hj => (e j hj).trans (h.2.1 j hj), fun x h1 h2 => (g x h1).trans (h.2.2 x h1 h2)⟩, b, c, d⟩
theorem rd_M.d {I J : bq_IR} {t k : Nat} {D D' : Nat → Int32} (h : rd_M I J t k D) : rd_M I (bq_sr J 78 D') t k D' := by
  refine ⟨⟨?_, bq_sr_s _ _ _⟩, fun j hj => ?_, fun x h1 h2 => ?_⟩
  · rw [bq_sr_n (by decide)]; exact h.1.1
  · rw [bq_sr_n (by decide)]; exact h.2.1 j hj
  · rw [bq_sr_n h2]; exact h.2.2 x h1 h2
set_option maxHeartbeats 1000000 in
set_option maxRecDepth 100000 in
theorem c_X9_number {z : Nat} {I : bq_IR} {L : bq_LR} {t k pl : Nat} {px lo hi : Int32} {D : Nat → Int32} {J : bq_IR} (ht : I 75 2 = nI t) (ht2 : t ≤ 200) (hk : k ≤ t) (hpx : px = nI pl) (hpl : pl < 32) (hJ : rd_M I J t k D) : bq_FI MX9_number z [.ref (z + 75), .int px, .int lo, .int hi] 85 (bq_Rf z) J L (fun r K L' => (match rd_num t (I 76) pl lo hi k D with | .inl s => r = 0 ∧ K 75 14 = nI s | .inr p => r = 1 ∧ rd_M I K t p.1 p.2) ∧ (∀ j, (j < 12 ∨ 15 < j) → K 75 j = I 75 j) ∧ (∀ x, x ≠ 75 → x ≠ 78 → K x = I x) ∧ L' = L) := by
  refine bq_FIof [some (.ref (z + 75)), some (.int px), some (.int lo), some (.int hi)] rfl (Nat.le_of_ble_eq_true rfl) (by decide) rfl (fun r I' L' h => by have h := h.1; split at h <;> (rw [h.1]; rfl)) ?_
  intro A G hret
  have G : bq_Cx cX9_number RX9 4 z (bq_rm MX9_number 0 0) "number" A := G
  have tj : J 75 2 = nI t := by rw [hJ.2.1 2 (by omega)]; exact ht
  refine bq_aload_n (q := 1) G rfl dX9_number_0 rfl ?_
  refine bq_callvV (q := 4) G dX9_number_1 rfl cl_X9_79 (c_X9_token tj ht2 hk hJ.1.1) rfl (by first | assumption | exact ⟨Nat.le_of_ble_eq_true rfl, rfl⟩) rfl ⟨Nat.le_of_ble_eq_true rfl, Nat.le_of_ble_eq_true rfl⟩ (Nat.le_of_ble_eq_true rfl) ⟨Nat.le_of_ble_eq_true rfl, Nat.le_of_ble_eq_true rfl⟩ (fun I1 L1 h1 => ?_)
  obtain ⟨h1, rfl⟩ := h1
  obtain ⟨m1, m2, m3, m4⟩ := hJ.tok h1
  refine bq_aload_n (q := 5) G rfl dX9_number_4 rfl ?_
  refine bq_getr (q := 8) G dX9_number_5 rfl fl_X9_16 (by first | assumption | exact ⟨Nat.le_of_ble_eq_true rfl, rfl⟩) (fun _ _ _ => rfl) (rf_75_4 z) ?_
  refine bq_iload_n (q := 9) G rfl dX9_number_8 rfl ?_
  refine bq_aload_n (q := 10) G rfl dX9_number_9 rfl ?_
  refine bq_geti (q := 13) G dX9_number_10 rfl fl_X9_76 (by first | assumption | exact ⟨Nat.le_of_ble_eq_true rfl, rfl⟩) rfl ?_
  refine bq_iast (q := 14) (b := pl) G dX9_number_13 rfl (by first | assumption | exact ⟨Nat.le_of_ble_eq_true rfl, rfl⟩) hpx (by first | with_reducible assumption | omega | decide) (by decide) ?_
  rw [m1.1.2, m4]
  have m5 := m1.d (D' := upd D pl (tk_V t (I 76) k))
  have q13 : bq_sr I1 78 (upd D pl (tk_V t (I 76) k)) 75 = I1 75 := bq_sr_n (by decide)
  generalize bq_sr I1 78 (upd D pl (tk_V t (I 76) k)) = K at m5 q13 ⊢
  rw [← q13] at m2 m3 m4
  have no : ¬ (tk_S t (I 76) k = 2 ∧ lo ≤ tk_V t (I 76) k ∧ tk_V t (I 76) k ≤ hi) → A 0 0 38 [some (.ref (z + 75)), some (.int px), some (.int lo), some (.int hi)] [] 85 (bq_Rf z) K L1 := by
    intro hn
    refine bq_iconst (q := 39) (v := 0) G (by decide) dX9_number_38 rfl ?_
    refine hret _ _ _ _ _ dX9_number_39 ⟨?_, m5.2.1, m5.2.2, rfl⟩
    unfold rd_num
    rw [if_neg hn]
    exact ⟨rfl, m3⟩
  refine bq_aload_n (q := 15) G rfl dX9_number_14 rfl ?_
  refine bq_geti (q := 18) G dX9_number_15 rfl fl_X9_73 (by first | assumption | exact ⟨Nat.le_of_ble_eq_true rfl, rfl⟩) rfl ?_
  refine bq_iconst (q := 19) (v := 2) G (by decide) dX9_number_18 rfl ?_
  refine bq_icmp_ne (t := 38) (q := 22) G dX9_number_19 (by decide) rfl (fun c19 => ?_) (fun c19 => ?_)
  · rw [m2] at c19
    exact no (fun h => c19 h.1)
  · rw [m2] at c19
    refine bq_aload_n (q := 23) G rfl dX9_number_22 rfl ?_
    refine bq_geti (q := 26) G dX9_number_23 rfl fl_X9_76 (by first | assumption | exact ⟨Nat.le_of_ble_eq_true rfl, rfl⟩) rfl ?_
    refine bq_iload_n (q := 27) G rfl dX9_number_26 rfl ?_
    refine bq_iload_n (q := 28) G rfl dX9_number_27 rfl ?_
    refine bq_calls (q := 31) G dX9_number_28 rfl cl_X9_45 (c_X9_in) rfl rfl ⟨Nat.le_of_ble_eq_true rfl, Nat.le_of_ble_eq_true rfl⟩ (Nat.le_of_ble_eq_true rfl) ⟨Nat.le_of_ble_eq_true rfl, Nat.le_of_ble_eq_true rfl⟩ rfl ?_
    first | refine bq_ifb_eq (t := 38) (q := 34) G dX9_number_31 (by decide) rfl (fun c31 => ?_) (fun c31 => ?_) | refine bq_if_eq (t := 38) (q := 34) G dX9_number_31 (by decide) rfl (fun c31 => ?_) (fun c31 => ?_)
    · rw [m4] at c31
      exact no (fun h => c31 h.2)
    · rw [m4] at c31
      refine bq_iconst (q := 35) (v := 1) G (by decide) dX9_number_34 rfl ?_
      refine bq_goto (q := 39) G dX9_number_35 (by decide) ?_
      refine hret _ _ _ _ _ dX9_number_39 ⟨?_, m5.2.1, m5.2.2, rfl⟩
      unfold rd_num
      rw [if_pos ⟨c19, c31⟩]
      exact ⟨rfl, m5⟩
set_option maxHeartbeats 1000000 in
set_option maxRecDepth 100000 in
theorem c_X9_readsItem {z : Nat} {I : bq_IR} {L : bq_LR} {t k m s0 : Nat} {so va : Int32} {D : Nat → Int32} {J : bq_IR} (ht : I 75 2 = nI t) (ht2 : t ≤ 200) (hk : k ≤ t) (hJ : rd_M I J t k D) (h13 : J 75 13 = so) (h14 : J 75 14 = nI s0) (h15 : J 75 15 = va) (h5 : D 5 = nI m) (hm : m ≤ 8) : bq_FI MX9_readsItem z [.ref (z + 75)] 85 (bq_Rf z) J L (fun r K L' => (match rd_item t (I 76) s0 so va k m D with | .inl s => r = 0 ∧ K 75 14 = nI s | .inr p => r = 1 ∧ rd_M I K t p.1 p.2) ∧ (∀ j, (j < 12 ∨ 15 < j) → K 75 j = I 75 j) ∧ (∀ x, x ≠ 75 → x ≠ 78 → K x = I x) ∧ L' = L) := by
  refine bq_FIof [some (.ref (z + 75)), none, none, none] rfl (Nat.le_of_ble_eq_true rfl) (by decide) rfl (fun r I' L' h => by have h := h.1; split at h <;> (rw [h.1]; rfl)) ?_
  intro A G hret
  have G : bq_Cx cX9_readsItem RX9 4 z (bq_rm MX9_readsItem 0 0) "readsItem" A := G
  have st : ∀ v : Int32, (v < 0 ∧ (¬ so = 1 ∨ tk_it va < 0)) ∨ (v = tk_it va ∧ so = 1 ∧ ¬ tk_it va < 0) → A 0 0 19 [some (.ref (z + 75)), none, none, none] [.int v] 85 (bq_Rf z) J L := by
    intro v hv
    rcases hv with ⟨hv, hc⟩ | ⟨rfl, hc1, hc2⟩
    · refine bq_istore_n (q := 20) (ls' := [_, _, _, _]) G dX9_readsItem_19 rfl (by decide) rfl rfl ?_
      refine bq_iload_n (q := 21) G rfl dX9_readsItem_20 rfl ?_
      refine bq_if_ge_f (q := 24) (t := 26) G dX9_readsItem_21 rfl (by decide) (Int32.not_le.mpr hv) ?_
      refine bq_iconst (q := 25) (v := 0) G (by decide) dX9_readsItem_24 rfl ?_
      refine hret _ _ _ _ _ dX9_readsItem_25 ⟨?_, hJ.2.1, hJ.2.2, rfl⟩
      unfold rd_item
      rw [if_pos hc]
      exact ⟨rfl, h14⟩
    · have hcn : ¬ (¬ so = 1 ∨ tk_it va < 0) := fun h => h.elim (fun h => h hc1) hc2
      have eI : rd_item t (I 76) s0 so va k m D = (if tk_it va = 5 then (if m = 8 then .inl s0 else rd_bind (rd_num t (I 76) (8 + m) 1 64 k D) fun k1 D1 => rd_bind (rd_num t (I 76) (16 + m) 1 40 k1 D1) fun k2 D2 => rd_bind (rd_num t (I 76) (24 + m) 1 40 k2 D2) fun k3 D3 => .inr (k3, upd D3 5 (D3 5 + 1))) else if D 7 >>> (tk_it va &&& 31) &&& 1 = 1 then .inl s0 else rd_num t (I 76) (tk_it va).toNatClampNeg (rd_lo (tk_it va)) (rd_hi (tk_it va)) k (upd D 7 (D 7 ||| (1 <<< (tk_it va &&& 31))))) := by
        unfold rd_item; rw [if_neg hcn]
      rw [eI] at hret
      rcases tk_it_or va with e | ⟨i, hi, e⟩
      · exact absurd (by rw [e]; decide) hc2
      rw [e] at hret ⊢
      have icl : (nI i).toNatClampNeg = i := nI_clamp (by omega)
      refine bq_istore_n (q := 20) (ls' := [_, _, _, _]) G dX9_readsItem_19 rfl (by decide) rfl rfl ?_
      refine bq_iload_n (q := 21) G rfl dX9_readsItem_20 rfl ?_
      refine bq_if_ge_t (t := 26) G dX9_readsItem_21 (by decide) (nI_pos' (by omega)) ?_
      refine bq_iload_n (q := 27) G rfl dX9_readsItem_26 rfl ?_
      refine bq_iconst (q := 28) (v := 5) G (by decide) dX9_readsItem_27 rfl ?_
      refine bq_icmp_ne (t := 100) (q := 31) G dX9_readsItem_28 (by decide) rfl (fun c28 => ?_) (fun c28 => ?_)
      · -- one of the settings
        have hi5 : ¬ nI i = 5 := c28
        have hi5' : i < 5 := by
          rcases Nat.lt_or_ge i 5 with h | h
          · exact h
          · exact absurd (by rw [show i = 5 by omega]; rfl) c28
        rw [if_neg hi5] at hret
        refine bq_aload_n (q := 101) G rfl dX9_readsItem_100 rfl ?_
        refine bq_getr (q := 104) G dX9_readsItem_101 rfl fl_X9_16 (by first | assumption | exact ⟨Nat.le_of_ble_eq_true rfl, rfl⟩) (fun _ _ _ => rfl) (rf_75_4 z) ?_
        refine bq_bipush (q := 106) (v := 7) G (by decide) dX9_readsItem_104 rfl ?_
        refine bq_iald (q := 107) (b := 7) G dX9_readsItem_106 rfl (by first | assumption | exact ⟨Nat.le_of_ble_eq_true rfl, rfl⟩) rfl (by first | with_reducible assumption | omega | decide) (by decide) ?_
        refine bq_iload_n (q := 108) G rfl dX9_readsItem_107 rfl ?_
        refine bq_ishr (q := 109) G dX9_readsItem_108 rfl ?_
        refine bq_iconst (q := 110) (v := 1) G (by decide) dX9_readsItem_109 rfl ?_
        refine bq_iand (q := 111) G dX9_readsItem_110 rfl ?_
        refine bq_iconst (q := 112) (v := 1) G (by decide) dX9_readsItem_111 rfl ?_
        refine bq_icmp_ne (t := 117) (q := 115) G dX9_readsItem_112 (by decide) rfl (fun c112 => ?_) (fun c112 => ?_)
        · rw [hJ.1.2] at c112
          rw [if_neg c112, icl] at hret
          refine bq_aload_n (q := 118) G rfl dX9_readsItem_117 rfl ?_
          refine bq_getr (q := 121) G dX9_readsItem_118 rfl fl_X9_16 (by first | assumption | exact ⟨Nat.le_of_ble_eq_true rfl, rfl⟩) (fun _ _ _ => rfl) (rf_75_4 z) ?_
          refine bq_bipush (q := 123) (v := 7) G (by decide) dX9_readsItem_121 rfl ?_
          refine bq_dup2 (q := 124) G rfl rfl dX9_readsItem_123 rfl ?_
          refine bq_iald (q := 125) (b := 7) G dX9_readsItem_124 rfl (by first | assumption | exact ⟨Nat.le_of_ble_eq_true rfl, rfl⟩) rfl (by first | with_reducible assumption | omega | decide) (by decide) ?_
          refine bq_iconst (q := 126) (v := 1) G (by decide) dX9_readsItem_125 rfl ?_
          refine bq_iload_n (q := 127) G rfl dX9_readsItem_126 rfl ?_
          refine bq_ishl (q := 128) G dX9_readsItem_127 rfl ?_
          refine bq_ior (q := 129) G dX9_readsItem_128 rfl ?_
          refine bq_iast (q := 130) (b := 7) G dX9_readsItem_129 rfl (by first | assumption | exact ⟨Nat.le_of_ble_eq_true rfl, rfl⟩) rfl (by first | with_reducible assumption | omega | decide) (by decide) ?_
          rw [hJ.1.2]
          have mJ := hJ.d (D' := upd D 7 (D 7 ||| (1 <<< (nI i &&& 31))))
          generalize bq_sr J 78 (upd D 7 (D 7 ||| (1 <<< (nI i &&& 31)))) = K at mJ ⊢
          have fin : ∀ lo hi : Int32, lo = rd_lo (nI i) → hi = rd_hi (nI i) → A 0 0 173 [some (.ref (z + 75)), some (.int (nI i)), some (.int lo), none] [.int hi] 85 (bq_Rf z) K L := by
            intro lo hi hlo hhi
            subst hlo hhi
            refine bq_istore_n (q := 174) (ls' := [_, _, _, _]) G dX9_readsItem_173 rfl (by decide) rfl rfl ?_
            refine bq_aload_n (q := 175) G rfl dX9_readsItem_174 rfl ?_
            refine bq_iload_n (q := 176) G rfl dX9_readsItem_175 rfl ?_
            refine bq_iload_n (q := 177) G rfl dX9_readsItem_176 rfl ?_
            refine bq_iload_n (q := 178) G rfl dX9_readsItem_177 rfl ?_
            refine bq_callvI (q := 181) G dX9_readsItem_178 rfl cl_X9_82 (c_X9_number ht ht2 hk (pl := i) rfl (by omega) mJ) rfl (by first | assumption | exact ⟨Nat.le_of_ble_eq_true rfl, rfl⟩) rfl ⟨Nat.le_of_ble_eq_true rfl, Nat.le_of_ble_eq_true rfl⟩ (Nat.le_of_ble_eq_true rfl) ⟨Nat.le_of_ble_eq_true rfl, Nat.le_of_ble_eq_true rfl⟩ (fun r178 I178 L178 h178 => ?_)
            exact hret _ _ _ _ _ dX9_readsItem_181 h178
          have low : ∀ lo : Int32, lo = rd_lo (nI i) → A 0 0 145 [some (.ref (z + 75)), some (.int (nI i)), none, none] [.int lo] 85 (bq_Rf z) K L := by
            intro lo hlo
            refine bq_istore_n (q := 146) (ls' := [_, _, _, _]) G dX9_readsItem_145 rfl (by decide) rfl rfl ?_
            refine bq_iload_n (q := 147) G rfl dX9_readsItem_146 rfl ?_
            refine bq_iconst (q := 148) (v := 1) G (by decide) dX9_readsItem_147 rfl ?_
            refine bq_icmp_eq (t := 156) (q := 151) G dX9_readsItem_148 (by decide) rfl (fun c148 => ?_) (fun c148 => ?_)
            · refine bq_bipush (q := 158) (v := 20) G (by decide) dX9_readsItem_156 rfl ?_
              refine bq_goto (q := 173) G dX9_readsItem_158 (by decide) ?_
              exact fin _ _ hlo (by unfold rd_hi; rw [if_pos (Or.inl c148)])
            · refine bq_iload_n (q := 152) G rfl dX9_readsItem_151 rfl ?_
              refine bq_iconst (q := 153) (v := 2) G (by decide) dX9_readsItem_152 rfl ?_
              refine bq_icmp_ne (t := 161) (q := 156) G dX9_readsItem_153 (by decide) rfl (fun c153 => ?_) (fun c153 => ?_)
              · refine bq_iload_n (q := 162) G rfl dX9_readsItem_161 rfl ?_
                refine bq_iconst (q := 163) (v := 4) G (by decide) dX9_readsItem_162 rfl ?_
                refine bq_icmp_ne (t := 171) (q := 166) G dX9_readsItem_163 (by decide) rfl (fun c163 => ?_) (fun c163 => ?_)
                · refine bq_bipush (q := 173) (v := 99) G (by decide) dX9_readsItem_171 rfl ?_
                  exact fin _ _ hlo (by unfold rd_hi; rw [if_neg (fun h => h.elim c148 c153), if_neg c163])
                · refine bq_bipush (q := 168) (v := 8) G (by decide) dX9_readsItem_166 rfl ?_
                  refine bq_goto (q := 173) G dX9_readsItem_168 (by decide) ?_
                  exact fin _ _ hlo (by unfold rd_hi; rw [if_neg (fun h => h.elim c148 c153), if_pos c163])
              · refine bq_bipush (q := 158) (v := 20) G (by decide) dX9_readsItem_156 rfl ?_
                refine bq_goto (q := 173) G dX9_readsItem_158 (by decide) ?_
                exact fin _ _ hlo (by unfold rd_hi; rw [if_pos (Or.inr c153)])
          refine bq_iload_n (q := 131) G rfl dX9_readsItem_130 rfl ?_
          refine bq_iconst (q := 132) (v := 1) G (by decide) dX9_readsItem_131 rfl ?_
          refine bq_icmp_eq (t := 140) (q := 135) G dX9_readsItem_132 (by decide) rfl (fun c132 => ?_) (fun c132 => ?_)
          · refine bq_iconst (q := 141) (v := 1) G (by decide) dX9_readsItem_140 rfl ?_
            refine bq_goto (q := 145) G dX9_readsItem_141 (by decide) ?_
            exact low _ (by unfold rd_lo; rw [if_pos (Or.inl c132)])
          · refine bq_iload_n (q := 136) G rfl dX9_readsItem_135 rfl ?_
            refine bq_iconst (q := 137) (v := 4) G (by decide) dX9_readsItem_136 rfl ?_
            refine bq_icmp_ne (t := 144) (q := 140) G dX9_readsItem_137 (by decide) rfl (fun c137 => ?_) (fun c137 => ?_)
            · refine bq_iconst (q := 145) (v := 0) G (by decide) dX9_readsItem_144 rfl ?_
              exact low _ (by unfold rd_lo; rw [if_neg (fun h => h.elim c132 c137)])
            · refine bq_iconst (q := 141) (v := 1) G (by decide) dX9_readsItem_140 rfl ?_
              refine bq_goto (q := 145) G dX9_readsItem_141 (by decide) ?_
              exact low _ (by unfold rd_lo; rw [if_pos (Or.inr c137)])
        · rw [hJ.1.2] at c112
          rw [if_pos c112] at hret
          refine bq_iconst (q := 116) (v := 0) G (by decide) dX9_readsItem_115 rfl ?_
          exact hret _ _ _ _ _ dX9_readsItem_116 ⟨⟨rfl, h14⟩, hJ.2.1, hJ.2.2, rfl⟩
      · rw [if_pos c28] at hret
        have e5 : J 78 5 = nI m := by rw [hJ.1.2]; exact h5
        have no : ∀ (K : bq_IR) (s : Nat), (match (if m = 8 then .inl s0 else rd_bind (rd_num t (I 76) (8 + m) 1 64 k D) fun k1 D1 => rd_bind (rd_num t (I 76) (16 + m) 1 40 k1 D1) fun k2 D2 => rd_bind (rd_num t (I 76) (24 + m) 1 40 k2 D2) fun k3 D3 => .inr (k3, upd D3 5 (D3 5 + 1)) : rd_X) with | .inl s => (0 : Int32) = 0 ∧ K 75 14 = nI s | .inr p => (0 : Int32) = 1 ∧ rd_M I K t p.1 p.2) → (∀ j, (j < 12 ∨ 15 < j) → K 75 j = I 75 j) → (∀ x, x ≠ 75 → x ≠ 78 → K x = I x) → A 0 0 86 [some (.ref (z + 75)), some (.int (nI i)), some (.int (nI m)), none] [] 85 (bq_Rf z) K L := by
          intro K s h1 h2 h3
          refine bq_iconst (q := 87) (v := 0) G (by decide) dX9_readsItem_86 rfl ?_
          exact hret _ _ _ _ _ dX9_readsItem_87 ⟨h1, h2, h3, rfl⟩
        refine bq_aload_n (q := 32) G rfl dX9_readsItem_31 rfl ?_
        refine bq_getr (q := 35) G dX9_readsItem_32 rfl fl_X9_16 (by first | assumption | exact ⟨Nat.le_of_ble_eq_true rfl, rfl⟩) (fun _ _ _ => rfl) (rf_75_4 z) ?_
        refine bq_iconst (q := 36) (v := 5) G (by decide) dX9_readsItem_35 rfl ?_
        refine bq_iald (q := 37) (b := 5) G dX9_readsItem_36 rfl (by first | assumption | exact ⟨Nat.le_of_ble_eq_true rfl, rfl⟩) rfl (by first | with_reducible assumption | omega | decide) (by decide) ?_
        refine bq_top (congrArg Value.int (e5)) ?_
        refine bq_istore_n (q := 38) (ls' := [_, _, _, _]) G dX9_readsItem_37 rfl (by decide) rfl rfl ?_
        rcases Nat.lt_or_ge m 8 with hm8 | hm8
        · have hne : ¬ m = 8 := by omega
          rw [if_neg hne] at hret no
          refine bq_iload_n (q := 39) G rfl dX9_readsItem_38 rfl ?_
          refine bq_bipush (q := 41) (v := 8) G (by decide) dX9_readsItem_39 rfl ?_
          refine bq_icmp_eq_f (q := 44) (t := 86) G dX9_readsItem_41 rfl (by decide) (fun h => hne ((nI_eq (a := m) (b := 8) (by omega) (by decide)).mp h)) ?_
          refine bq_aload_n (q := 45) G rfl dX9_readsItem_44 rfl ?_
          refine bq_bipush (q := 47) (v := 8) G (by decide) dX9_readsItem_45 rfl ?_
          refine bq_iload_n (q := 48) G rfl dX9_readsItem_47 rfl ?_
          refine bq_iadd (q := 49) G dX9_readsItem_48 rfl ?_
          refine bq_iconst (q := 50) (v := 1) G (by decide) dX9_readsItem_49 rfl ?_
          refine bq_bipush (q := 52) (v := 64) G (by decide) dX9_readsItem_50 rfl ?_
          refine bq_callvI (q := 55) G dX9_readsItem_52 rfl cl_X9_82 (c_X9_number ht ht2 hk (pl := 8 + m) (bq_ixa (a := 8) rfl rfl) (by omega) hJ) rfl (by first | assumption | exact ⟨Nat.le_of_ble_eq_true rfl, rfl⟩) rfl ⟨Nat.le_of_ble_eq_true rfl, Nat.le_of_ble_eq_true rfl⟩ (Nat.le_of_ble_eq_true rfl) ⟨Nat.le_of_ble_eq_true rfl, Nat.le_of_ble_eq_true rfl⟩ (fun r52 I52 L52 h52 => ?_)
          obtain ⟨h, f1, f2, rfl⟩ := h52
          cases e1 : rd_num t (I 76) (8 + m) 1 64 k D with
          | inl s =>
            rw [e1] at h no
            obtain ⟨rfl, h⟩ := h
            refine bq_if_eq_t (t := 86) G dX9_readsItem_55 (by decide) rfl ?_
            exact no I52 s ⟨rfl, h⟩ f1 f2
          | inr p1 =>
            rw [e1] at h no hret
            obtain ⟨rfl, h⟩ := h
            have q1 := (rd_num_r e1).1
            have n1 : p1.1 ≤ t := by rw [q1]; exact (tk_N_in hk).2.1
            refine bq_if_eq_f (q := 58) (t := 86) G dX9_readsItem_55 rfl (by decide) (by decide) ?_
            refine bq_aload_n (q := 59) G rfl dX9_readsItem_58 rfl ?_
            refine bq_bipush (q := 61) (v := 16) G (by decide) dX9_readsItem_59 rfl ?_
            refine bq_iload_n (q := 62) G rfl dX9_readsItem_61 rfl ?_
            refine bq_iadd (q := 63) G dX9_readsItem_62 rfl ?_
            refine bq_iconst (q := 64) (v := 1) G (by decide) dX9_readsItem_63 rfl ?_
            refine bq_bipush (q := 66) (v := 40) G (by decide) dX9_readsItem_64 rfl ?_
            refine bq_callvI (q := 69) G dX9_readsItem_66 rfl cl_X9_82 (c_X9_number ht ht2 n1 (pl := 16 + m) (bq_ixa (a := 16) rfl rfl) (by omega) h) rfl (by first | assumption | exact ⟨Nat.le_of_ble_eq_true rfl, rfl⟩) rfl ⟨Nat.le_of_ble_eq_true rfl, Nat.le_of_ble_eq_true rfl⟩ (Nat.le_of_ble_eq_true rfl) ⟨Nat.le_of_ble_eq_true rfl, Nat.le_of_ble_eq_true rfl⟩ (fun r66 I66 L66 h66 => ?_)
            obtain ⟨h, f1, f2, rfl⟩ := h66
            cases e2 : rd_num t (I 76) (16 + m) 1 40 p1.1 p1.2 with
            | inl s =>
              rw [e2] at h
              obtain ⟨rfl, h⟩ := h
              refine bq_if_eq_t (t := 86) G dX9_readsItem_69 (by decide) rfl ?_
              refine no I66 s ?_ f1 f2
              rw [rd_bind_inr, e2]
              exact ⟨rfl, h⟩
            | inr p2 =>
              rw [e2] at h
              obtain ⟨rfl, h⟩ := h
              have q2 := (rd_num_r e2).1
              have n2 : p2.1 ≤ t := by rw [q2]; exact (tk_N_in n1).2.1
              refine bq_if_eq_f (q := 72) (t := 86) G dX9_readsItem_69 rfl (by decide) (by decide) ?_
              refine bq_aload_n (q := 73) G rfl dX9_readsItem_72 rfl ?_
              refine bq_bipush (q := 75) (v := 24) G (by decide) dX9_readsItem_73 rfl ?_
              refine bq_iload_n (q := 76) G rfl dX9_readsItem_75 rfl ?_
              refine bq_iadd (q := 77) G dX9_readsItem_76 rfl ?_
              refine bq_iconst (q := 78) (v := 1) G (by decide) dX9_readsItem_77 rfl ?_
              refine bq_bipush (q := 80) (v := 40) G (by decide) dX9_readsItem_78 rfl ?_
              refine bq_callvI (q := 83) G dX9_readsItem_80 rfl cl_X9_82 (c_X9_number ht ht2 n2 (pl := 24 + m) (bq_ixa (a := 24) rfl rfl) (by omega) h) rfl (by first | assumption | exact ⟨Nat.le_of_ble_eq_true rfl, rfl⟩) rfl ⟨Nat.le_of_ble_eq_true rfl, Nat.le_of_ble_eq_true rfl⟩ (Nat.le_of_ble_eq_true rfl) ⟨Nat.le_of_ble_eq_true rfl, Nat.le_of_ble_eq_true rfl⟩ (fun r80 I80 L80 h80 => ?_)
              obtain ⟨h, f1, f2, rfl⟩ := h80
              cases e3 : rd_num t (I 76) (24 + m) 1 40 p2.1 p2.2 with
              | inl s =>
                rw [e3] at h
                obtain ⟨rfl, h⟩ := h
                refine bq_if_ne_f (q := 86) (t := 88) G dX9_readsItem_83 rfl (by decide) rfl ?_
                refine no I80 s ?_ f1 f2
                rw [rd_bind_inr, e2, rd_bind_inr, e3]
                exact ⟨rfl, h⟩
              | inr p3 =>
                rw [e3] at h
                obtain ⟨rfl, h⟩ := h
                refine bq_if_ne_t (t := 88) G dX9_readsItem_83 (by decide) (by decide) ?_
                refine bq_aload_n (q := 89) G rfl dX9_readsItem_88 rfl ?_
                refine bq_getr (q := 92) G dX9_readsItem_89 rfl fl_X9_16 (by first | assumption | exact ⟨Nat.le_of_ble_eq_true rfl, rfl⟩) (fun _ _ _ => rfl) (rf_75_4 z) ?_
                refine bq_iconst (q := 93) (v := 5) G (by decide) dX9_readsItem_92 rfl ?_
                refine bq_dup2 (q := 94) G rfl rfl dX9_readsItem_93 rfl ?_
                refine bq_iald (q := 95) (b := 5) G dX9_readsItem_94 rfl (by first | assumption | exact ⟨Nat.le_of_ble_eq_true rfl, rfl⟩) rfl (by first | with_reducible assumption | omega | decide) (by decide) ?_
                refine bq_iconst (q := 96) (v := 1) G (by decide) dX9_readsItem_95 rfl ?_
                refine bq_iadd (q := 97) G dX9_readsItem_96 rfl ?_
                refine bq_iast (q := 98) (b := 5) G dX9_readsItem_97 rfl (by first | assumption | exact ⟨Nat.le_of_ble_eq_true rfl, rfl⟩) rfl (by first | with_reducible assumption | omega | decide) (by decide) ?_
                refine bq_iconst (q := 99) (v := 1) G (by decide) dX9_readsItem_98 rfl ?_
                rw [h.1.2]
                refine hret _ _ _ _ _ dX9_readsItem_99 ⟨?_, h.d.2.1, h.d.2.2, rfl⟩
                rw [rd_bind_inr, e2, rd_bind_inr, e3]
                exact ⟨rfl, h.d⟩
        · have hm9 : m = 8 := by omega
          rw [if_pos hm9] at no
          refine bq_iload_n (q := 39) G rfl dX9_readsItem_38 rfl ?_
          refine bq_bipush (q := 41) (v := 8) G (by decide) dX9_readsItem_39 rfl ?_
          refine bq_icmp_eq_t (t := 86) G dX9_readsItem_41 (by decide) (by rw [hm9]; rfl) ?_
          exact no J 0 ⟨rfl, h14⟩ hJ.2.1 hJ.2.2
  refine bq_aload_n (q := 1) G rfl dX9_readsItem_0 rfl ?_
  refine bq_geti (q := 4) G dX9_readsItem_1 rfl fl_X9_73 (by first | assumption | exact ⟨Nat.le_of_ble_eq_true rfl, rfl⟩) rfl ?_
  refine bq_iconst (q := 5) (v := 1) G (by decide) dX9_readsItem_4 rfl ?_
  refine bq_icmp_ne (t := 18) (q := 8) G dX9_readsItem_5 (by decide) rfl (fun c5 => ?_) (fun c5 => ?_)
  · rw [h13] at c5
    refine bq_iconst (q := 19) (v := -1) G (by decide) dX9_readsItem_18 rfl ?_
    exact st _ (Or.inl ⟨by decide, Or.inl c5⟩)
  · rw [h13] at c5
    refine bq_aload_n (q := 9) G rfl dX9_readsItem_8 rfl ?_
    refine bq_geti (q := 12) G dX9_readsItem_9 rfl fl_X9_76 (by first | assumption | exact ⟨Nat.le_of_ble_eq_true rfl, rfl⟩) rfl ?_
    refine bq_calls (q := 15) G dX9_readsItem_12 rfl cl_X9_67 (c_X9_itemOf) rfl rfl ⟨Nat.le_of_ble_eq_true rfl, Nat.le_of_ble_eq_true rfl⟩ (Nat.le_of_ble_eq_true rfl) ⟨Nat.le_of_ble_eq_true rfl, Nat.le_of_ble_eq_true rfl⟩ rfl ?_
    refine bq_goto (q := 19) G dX9_readsItem_15 (by decide) ?_
    rw [h15]
    by_cases hn : tk_it va < 0
    · exact st _ (Or.inl ⟨hn, Or.inr hn⟩)
    · exact st _ (Or.inr ⟨rfl, c5, hn⟩)
def rd_D0 (D : Nat → Int32) : Nat → Int32 := upd (upd (upd (gs_cp 32 (fun _ => 0) D) 1 4) 3 10) 4 8
theorem rd_ok0 (D : Nat → Int32) : rd_ok (rd_D0 D) 0 := by
  unfold rd_D0
  refine ⟨⟨?_, ?_, ?_, ?_, ?_⟩, ⟨?_, by decide⟩, fun b hb => by omega⟩
  · rw [pk_un (by decide), pk_un (by decide), pk_un (by decide), gs_cp_lt (by decide)]; decide
  · rw [pk_un (by decide), pk_un (by decide), pk_us]; decide
  · rw [pk_un (by decide), pk_un (by decide), pk_un (by decide), gs_cp_lt (by decide)]; decide
  · rw [pk_un (by decide), pk_us]; decide
  · rw [pk_us]; decide
  · rw [pk_un (by decide), pk_un (by decide), pk_un (by decide), gs_cp_lt (by decide)]; rfl
theorem rd_all_s (t : Nat) (f : Nat → Int32) (u k m : Nat) (D : Nat → Int32) : rd_all t f (u + 1) k m D = if tk_S t f k = 0 then .inr D else match rd_item t f (tk_B t f k) (tk_S t f k) (tk_V t f k) (tk_N t f k) m D with
    | .inl s => .inl s
    | .inr p => if tk_S t f p.1 = 3 then rd_all t f u (tk_N t f p.1) (if tk_it (tk_V t f k) = 5 then m + 1 else m) (upd p.2 6 (p.2 6 + 1)) else .inl (tk_B t f p.1) := rfl
theorem rd_all_ok {t : Nat} {f : Nat → Int32} : ∀ (u k m : Nat) (D D' : Nat → Int32), k ≤ t → rd_ok D m → rd_all t f u k m D = .inr D' → ∃ m', rd_ok D' m'
  | 0, k, m, D, D', _, _, h => by cases h
  | u + 1, k, m, D, D', hk, hD, h => by
    rw [rd_all_s] at h
    split at h
    · cases h; exact ⟨m, hD⟩
    · cases e : rd_item t f (tk_B t f k) (tk_S t f k) (tk_V t f k) (tk_N t f k) m D with
      | inl s => rw [e] at h; cases h
      | inr p =>
        rw [e] at h
        have hn := tk_N_in (f := f) hk
        obtain ⟨⟨a1, a2⟩, a3⟩ := rd_item_r hn.2.1 hD e
        simp only at h
        split at h
        · exact rd_all_ok u _ _ _ _ (tk_N_in (f := f) a2).2.1 (a3.hi (Or.inl rfl) _) h
        · cases h
set_option maxHeartbeats 1000000 in
set_option maxRecDepth 100000 in
theorem c_X9_reads {z : Nat} {I : bq_IR} {L : bq_LR} {t : Nat} (ht : I 75 2 = nI t) (ht2 : t ≤ 200) : bq_FI MX9_reads z [.ref (z + 75)] 85 (bq_Rf z) I L (fun r K L' => (match rd_all t (I 76) (t + 1) 0 0 (rd_D0 (I 78)) with | .inl s => r = 0 ∧ K 75 14 = nI s | .inr D => r = 1 ∧ K 78 = D) ∧ (∀ j, (j < 12 ∨ 15 < j) → K 75 j = I 75 j) ∧ (∀ x, x ≠ 75 → x ≠ 78 → K x = I x) ∧ L' = L) := by
  refine bq_FIof [some (.ref (z + 75)), none] rfl (Nat.le_of_ble_eq_true rfl) (by decide) rfl (fun r I' L' h => by have h := h.1; split at h <;> (rw [h.1]; rfl)) ?_
  intro A G hret
  have G : bq_Cx cX9_reads RX9 2 z (bq_rm MX9_reads 0 0) "reads" A := G
  have loop : ∀ u k m D, k ≤ t → t - k < u → rd_ok D m → (rd_all t (I 76) u k m D = rd_all t (I 76) (t + 1) 0 0 (rd_D0 (I 78))) → ∀ K : bq_IR, rd_M I K t (tk_N t (I 76) k) D → K 75 13 = tk_S t (I 76) k → K 75 14 = nI (tk_B t (I 76) k) → K 75 15 = tk_V t (I 76) k → A 0 0 53 [some (.ref (z + 75)), none] [] 85 (bq_Rf z) K L := by
    intro u
    induction u with
    | zero => intro k m D _ h; omega
    | succ u ih =>
      intro k m D hk hu hD he K hK k13 k14 k15
      rw [rd_all_s] at he
      have hn := tk_N_in (f := I 76) hk
      refine bq_aload_n (q := 54) G rfl dX9_reads_53 rfl ?_
      refine bq_geti (q := 57) G dX9_reads_54 rfl fl_X9_73 (by first | assumption | exact ⟨Nat.le_of_ble_eq_true rfl, rfl⟩) rfl ?_
      first | refine bq_ifb_eq (t := 101) (q := 60) G dX9_reads_57 (by decide) rfl (fun c57 => ?_) (fun c57 => ?_) | refine bq_if_eq (t := 101) (q := 60) G dX9_reads_57 (by decide) rfl (fun c57 => ?_) (fun c57 => ?_)
      · rw [k13] at c57
        rw [if_pos c57] at he
        refine bq_iconst (q := 102) (v := 1) G (by decide) dX9_reads_101 rfl ?_
        refine hret _ _ _ _ _ dX9_reads_102 ⟨?_, hK.2.1, hK.2.2, rfl⟩
        rw [← he]
        exact ⟨rfl, hK.1.2⟩
      · rw [k13] at c57
        rw [if_neg c57] at he
        refine bq_aload_n (q := 61) G rfl dX9_reads_60 rfl ?_
        refine bq_callvI (q := 64) G dX9_reads_61 rfl cl_X9_85 (c_X9_readsItem ht ht2 hn.2.1 hK k13 k14 k15 hD.2.1.1 hD.2.1.2) rfl (by first | assumption | exact ⟨Nat.le_of_ble_eq_true rfl, rfl⟩) rfl ⟨Nat.le_of_ble_eq_true rfl, Nat.le_of_ble_eq_true rfl⟩ (Nat.le_of_ble_eq_true rfl) ⟨Nat.le_of_ble_eq_true rfl, Nat.le_of_ble_eq_true rfl⟩ (fun r61 I61 L61 h61 => ?_)
        obtain ⟨h, f1, f2, rfl⟩ := h61
        cases e : rd_item t (I 76) (tk_B t (I 76) k) (tk_S t (I 76) k) (tk_V t (I 76) k) (tk_N t (I 76) k) m D with
        | inl s =>
          rw [e] at h he
          obtain ⟨rfl, h⟩ := h
          refine bq_if_ne_f (q := 67) (t := 69) G dX9_reads_64 rfl (by decide) rfl ?_
          refine bq_iconst (q := 68) (v := 0) G (by decide) dX9_reads_67 rfl ?_
          refine hret _ _ _ _ _ dX9_reads_68 ⟨?_, f1, f2, rfl⟩
          rw [← he]
          exact ⟨rfl, h⟩
        | inr p =>
          rw [e] at h he
          obtain ⟨rfl, h⟩ := h
          obtain ⟨⟨a1, a2⟩, a3⟩ := rd_item_r hn.2.1 hD e
          have tj : I61 75 2 = nI t := by rw [f1 2 (by omega)]; exact ht
          refine bq_if_ne_t (t := 69) G dX9_reads_64 (by decide) (by decide) ?_
          refine bq_aload_n (q := 70) G rfl dX9_reads_69 rfl ?_
          refine bq_callvV (q := 73) G dX9_reads_70 rfl cl_X9_79 (c_X9_token tj ht2 a2 h.1.1) rfl (by first | assumption | exact ⟨Nat.le_of_ble_eq_true rfl, rfl⟩) rfl ⟨Nat.le_of_ble_eq_true rfl, Nat.le_of_ble_eq_true rfl⟩ (Nat.le_of_ble_eq_true rfl) ⟨Nat.le_of_ble_eq_true rfl, Nat.le_of_ble_eq_true rfl⟩ (fun I70 L70 h70 => ?_)
          obtain ⟨h70, rfl⟩ := h70
          obtain ⟨m1, m2, m3, m4⟩ := h.tok h70
          simp only at he
          refine bq_aload_n (q := 74) G rfl dX9_reads_73 rfl ?_
          refine bq_geti (q := 77) G dX9_reads_74 rfl fl_X9_73 (by first | assumption | exact ⟨Nat.le_of_ble_eq_true rfl, rfl⟩) rfl ?_
          refine bq_iconst (q := 78) (v := 3) G (by decide) dX9_reads_77 rfl ?_
          refine bq_icmp_eq (t := 83) (q := 81) G dX9_reads_78 (by decide) rfl (fun c78 => ?_) (fun c78 => ?_)
          · rw [m2] at c78
            rw [if_pos c78] at he
            have hn2 := tk_N_in (f := I 76) a2
            refine bq_aload_n (q := 84) G rfl dX9_reads_83 rfl ?_
            refine bq_getr (q := 87) G dX9_reads_84 rfl fl_X9_16 (by first | assumption | exact ⟨Nat.le_of_ble_eq_true rfl, rfl⟩) (fun _ _ _ => rfl) (rf_75_4 z) ?_
            refine bq_bipush (q := 89) (v := 6) G (by decide) dX9_reads_87 rfl ?_
            refine bq_dup2 (q := 90) G rfl rfl dX9_reads_89 rfl ?_
            refine bq_iald (q := 91) (b := 6) G dX9_reads_90 rfl (by first | assumption | exact ⟨Nat.le_of_ble_eq_true rfl, rfl⟩) rfl (by first | with_reducible assumption | omega | decide) (by decide) ?_
            refine bq_iconst (q := 92) (v := 1) G (by decide) dX9_reads_91 rfl ?_
            refine bq_iadd (q := 93) G dX9_reads_92 rfl ?_
            refine bq_iast (q := 94) (b := 6) G dX9_reads_93 rfl (by first | assumption | exact ⟨Nat.le_of_ble_eq_true rfl, rfl⟩) rfl (by first | with_reducible assumption | omega | decide) (by decide) ?_
            rw [m1.1.2]
            have m5 := m1.d (D' := upd p.2 6 (p.2 6 + 1))
            generalize bq_sr I70 78 (upd p.2 6 (p.2 6 + 1)) = K2 at m5 ⊢
            have tj2 : K2 75 2 = nI t := by rw [m5.2.1 2 (by omega)]; exact ht
            refine bq_aload_n (q := 95) G rfl dX9_reads_94 rfl ?_
            refine bq_callvV (q := 98) G dX9_reads_95 rfl cl_X9_79 (c_X9_token tj2 ht2 hn2.2.1 m5.1.1) rfl (by first | assumption | exact ⟨Nat.le_of_ble_eq_true rfl, rfl⟩) rfl ⟨Nat.le_of_ble_eq_true rfl, Nat.le_of_ble_eq_true rfl⟩ (Nat.le_of_ble_eq_true rfl) ⟨Nat.le_of_ble_eq_true rfl, Nat.le_of_ble_eq_true rfl⟩ (fun I95 L95 h95 => ?_)
            refine bq_goto (q := 53) G dX9_reads_98 (by decide) ?_
            obtain ⟨h95, rfl⟩ := h95
            obtain ⟨n1, n2, n3, n4⟩ := m5.tok h95
            have hlt := hn.2.2 c57
            exact ih _ _ _ hn2.2.1 (by omega) (a3.hi (Or.inl rfl) _) he I95 n1 n2 n3 n4
          · rw [m2] at c78
            rw [if_neg c78] at he
            refine bq_iconst (q := 82) (v := 0) G (by decide) dX9_reads_81 rfl ?_
            refine hret _ _ _ _ _ dX9_reads_82 ⟨?_, m1.2.1, m1.2.2, rfl⟩
            rw [← he]
            exact ⟨rfl, m3⟩
  have z0 : ∀ k, k ≤ 32 → A 0 0 2 [some (.ref (z + 75)), some (.int (nI k))] [] 85 (bq_Rf z) (bq_sr I 78 (gs_cp k (fun _ => 0) (I 78))) L := by
    refine bq_down 32 ?_
    intro k hk ih
    rcases Nat.lt_or_ge k 32 with hk8 | hk8
    · refine bq_iload_n (q := 3) G rfl dX9_reads_2 rfl ?_
      refine bq_bipush (q := 5) (v := 32) G (by decide) dX9_reads_3 rfl ?_
      refine bq_icmp_ge_f (q := 8) (t := 21) G dX9_reads_5 rfl (by decide) (nI_ge (a := k) (b := 32) hk8 (by decide)) ?_
      refine bq_aload_n (q := 9) G rfl dX9_reads_8 rfl ?_
      refine bq_getr (q := 12) G dX9_reads_9 rfl fl_X9_16 (by first | assumption | exact ⟨Nat.le_of_ble_eq_true rfl, rfl⟩) (fun _ _ _ => rfl) (rf_75_4 z) ?_
      refine bq_iload_n (q := 13) G rfl dX9_reads_12 rfl ?_
      refine bq_iconst (q := 14) (v := 0) G (by decide) dX9_reads_13 rfl ?_
      refine bq_iast (q := 15) G dX9_reads_14 rfl (by first | assumption | exact ⟨Nat.le_of_ble_eq_true rfl, rfl⟩) (by first | with_reducible assumption | with_reducible exact rfl | exact bq_ixa rfl (by with_reducible assumption) | exact rfl | exact bq_ixa rfl rfl | exact bq_ixa (by with_reducible assumption) rfl | exact bq_ixa rfl (bq_ixa (by first | rfl | with_reducible assumption) (by first | rfl | with_reducible assumption))) (by first | with_reducible assumption | omega | decide) (by decide) ?_
      refine bq_iinc (q := 18) (ls' := [_, _]) G dX9_reads_15 rfl rfl (by first | exact nI_1 _ | exact pk_m1 _ | rfl) (by decide) rfl rfl ?_
      refine bq_goto (q := 2) G dX9_reads_18 (by decide) ?_
      refine bq_I ?_ (ih hk8)
      rw [gs_cp_s, bq_sr_sr, bq_sr_s]
    · have hk9 : k = 32 := by omega
      subst hk9
      refine bq_iload_n (q := 3) G rfl dX9_reads_2 rfl ?_
      refine bq_bipush (q := 5) (v := 32) G (by decide) dX9_reads_3 rfl ?_
      refine bq_icmp_ge_t (t := 21) G dX9_reads_5 (by decide) (nI_le (a := 32) (b := 32) (by omega) (by decide)) ?_
      refine bq_aload_n (q := 22) G rfl dX9_reads_21 rfl ?_
      refine bq_getr (q := 25) G dX9_reads_22 rfl fl_X9_16 (by first | assumption | exact ⟨Nat.le_of_ble_eq_true rfl, rfl⟩) (fun _ _ _ => rfl) (rf_75_4 z) ?_
      refine bq_iconst (q := 26) (v := 1) G (by decide) dX9_reads_25 rfl ?_
      refine bq_iconst (q := 27) (v := 4) G (by decide) dX9_reads_26 rfl ?_
      refine bq_iast (q := 28) (b := 1) G dX9_reads_27 rfl (by first | assumption | exact ⟨Nat.le_of_ble_eq_true rfl, rfl⟩) rfl (by first | with_reducible assumption | omega | decide) (by decide) ?_
      refine bq_aload_n (q := 29) G rfl dX9_reads_28 rfl ?_
      refine bq_getr (q := 32) G dX9_reads_29 rfl fl_X9_16 (by first | assumption | exact ⟨Nat.le_of_ble_eq_true rfl, rfl⟩) (fun _ _ _ => rfl) (rf_75_4 z) ?_
      refine bq_iconst (q := 33) (v := 3) G (by decide) dX9_reads_32 rfl ?_
      refine bq_bipush (q := 35) (v := 10) G (by decide) dX9_reads_33 rfl ?_
      refine bq_iast (q := 36) (b := 3) G dX9_reads_35 rfl (by first | assumption | exact ⟨Nat.le_of_ble_eq_true rfl, rfl⟩) rfl (by first | with_reducible assumption | omega | decide) (by decide) ?_
      refine bq_aload_n (q := 37) G rfl dX9_reads_36 rfl ?_
      refine bq_getr (q := 40) G dX9_reads_37 rfl fl_X9_16 (by first | assumption | exact ⟨Nat.le_of_ble_eq_true rfl, rfl⟩) (fun _ _ _ => rfl) (rf_75_4 z) ?_
      refine bq_iconst (q := 41) (v := 4) G (by decide) dX9_reads_40 rfl ?_
      refine bq_bipush (q := 43) (v := 8) G (by decide) dX9_reads_41 rfl ?_
      refine bq_iast (q := 44) (b := 4) G dX9_reads_43 rfl (by first | assumption | exact ⟨Nat.le_of_ble_eq_true rfl, rfl⟩) rfl (by first | with_reducible assumption | omega | decide) (by decide) ?_
      refine bq_aload_n (q := 45) G rfl dX9_reads_44 rfl ?_
      refine bq_iconst (q := 46) (v := 0) G (by decide) dX9_reads_45 rfl ?_
      refine bq_puti (q := 49) G dX9_reads_46 rfl fl_X9_57 (by first | assumption | exact ⟨Nat.le_of_ble_eq_true rfl, rfl⟩) rfl rfl ?_
      simp only [bq_sr_s, bq_sr_sr]
      rw [show upd (upd (upd (gs_cp 32 (fun _ => 0) (I 78)) 1 4) 3 10) 4 8 = rd_D0 (I 78) from rfl]
      have m0 : rd_M I (bq_sr (bq_sr I 78 (rd_D0 (I 78))) 75 (upd (bq_sr I 78 (rd_D0 (I 78)) 75) 12 0)) t 0 (rd_D0 (I 78)) := by
        refine ⟨⟨?_, ?_⟩, fun j hj => ?_, fun x h1 h2 => ?_⟩
        · rw [bq_sr_s, pk_us]; rfl
        · rw [bq_sr_n (by decide), bq_sr_s]
        · rw [bq_sr_s, pk_un (by omega), bq_sr_n (by decide)]
        · rw [bq_sr_n h1, bq_sr_n h2]
      generalize bq_sr (bq_sr I 78 (rd_D0 (I 78))) 75 (upd (bq_sr I 78 (rd_D0 (I 78)) 75) 12 0) = K0 at m0 ⊢
      have tj : K0 75 2 = nI t := by rw [m0.2.1 2 (by omega)]; exact ht
      refine bq_aload_n (q := 50) G rfl dX9_reads_49 rfl ?_
      refine bq_callvV (q := 53) G dX9_reads_50 rfl cl_X9_79 (c_X9_token tj ht2 (Nat.zero_le t) m0.1.1) rfl (by first | assumption | exact ⟨Nat.le_of_ble_eq_true rfl, rfl⟩) rfl ⟨Nat.le_of_ble_eq_true rfl, Nat.le_of_ble_eq_true rfl⟩ (Nat.le_of_ble_eq_true rfl) ⟨Nat.le_of_ble_eq_true rfl, Nat.le_of_ble_eq_true rfl⟩ (fun I50 L50 h50 => ?_)
      obtain ⟨h50, rfl⟩ := h50
      obtain ⟨n1, n2, n3, n4⟩ := m0.tok h50
      refine bq_forget G ?_ (loop (t + 1) 0 0 _ (Nat.zero_le t) (by omega) (rd_ok0 _) rfl I50 n1 n2 n3 n4)
      repeat (first | exact bq_le_0 _ | refine bq_le_n ?_ | refine bq_le_s rfl ?_)
  refine bq_iconst (q := 1) (v := 0) G (by decide) dX9_reads_0 rfl ?_
  refine bq_istore_n (q := 2) (ls' := [_, _]) G dX9_reads_1 rfl (by decide) rfl rfl ?_
  refine bq_I ?_ (z0 0 (by omega))
  rw [gs_cp_0, bq_sr_id]
