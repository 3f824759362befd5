/-! an item, read by the class -/
theorem cs_T59 {t : Nat} {f : Nat → Int32} {k : Nat} {tok num : Int32} (h : cs_T t f k tok num) : tok = 59 ↔ tk_S t f k = 3 := by
  rcases h with ⟨h1, rfl⟩ | ⟨h1, h2⟩ | ⟨h1, rfl, h3, h4, h5, h6⟩
  · rw [h1]; decide
  · rw [h1]
    rcases h2 with ⟨rfl, _⟩ | ⟨rfl, _⟩ <;> decide
  · exact h6.symm
theorem cs_Tn {t : Nat} {f : Nat → Int32} {k j : Nat} {tok num : Int32} (hj : cf_h j ≤ 99) (h : cs_T t f k tok num) : (tok = -2 ∧ (cf_l j ≤ num ∧ num ≤ cf_h j)) ↔ (tk_S t f k = 2 ∧ cf_l j ≤ tk_V t f k ∧ tk_V t f k ≤ cf_h j) := by
  rcases h with ⟨h1, rfl⟩ | ⟨h1, h2⟩ | ⟨h1, rfl, h3, h4, h5, h6⟩
  · rw [h1]
    exact ⟨fun h => absurd h.1 (by decide), fun h => absurd h.1 (by decide)⟩
  · rcases h2 with ⟨rfl, rfl, h3⟩ | ⟨rfl, h3⟩
    · exact ⟨fun h => ⟨h1, h.2⟩, fun h => ⟨rfl, h.2⟩⟩
    · refine ⟨fun h => absurd h.1 (by decide), fun h => ?_⟩
      exact absurd (Int32.le_trans h.2.2 hj) (Int32.not_le.mpr h3)
  · refine ⟨fun h => ?_, fun h => absurd h.1 h1.2⟩
    rw [h.1] at h4
    exact absurd h4 (by decide)
theorem cf_h99 : ∀ j, j < 8 → cf_h j ≤ 99 := by decide
theorem rd_num_y {t : Nat} {f : Nat → Int32} {pl : Nat} {lo hi : Int32} {k : Nat} {D : Nat → Int32} (h : tk_S t f k = 2 ∧ lo ≤ tk_V t f k ∧ tk_V t f k ≤ hi) : rd_num t f pl lo hi k D = .inr (tk_N t f k, upd D pl (tk_V t f k)) := by unfold rd_num; rw [if_pos h]
theorem rd_num_n {t : Nat} {f : Nat → Int32} {pl : Nat} {lo hi : Int32} {k : Nat} {D : Nat → Int32} (h : ¬ (tk_S t f k = 2 ∧ lo ≤ tk_V t f k ∧ tk_V t f k ≤ hi)) : rd_num t f pl lo hi k D = .inl (tk_B t f k) := by unfold rd_num; rw [if_neg h]
/-- only the reader differs -/
def cs_G (I J : bq_IR) : Prop := J 3 5 = I 3 5 ∧ ∀ x, x ≠ 3 → x ≠ 4 → J x = I x
theorem cs_G.rf (I : bq_IR) : cs_G I I := ⟨rfl, fun _ _ _ => rfl⟩
theorem cs_G.stp {I J K : bq_IR} (h : cs_G I J) (h2 : cs_F J K) : cs_G I K := ⟨h2.1.trans h.1, fun x a b => (h2.2 x a).trans (h.2 x a b)⟩
theorem cs_G.n4 {I J : bq_IR} (h : cs_G I J) (f : Nat → Int32) : cs_G I (bq_sr J 4 f) := ⟨by rw [bq_srn1 (by decide)]; exact h.1, fun x a b => by rw [bq_sr_n b]; exact h.2 x a b⟩
/-- only the reader and the draft differ -/
def cs_D (I J : bq_IR) : Prop := ∀ x, x ≠ 3 → x ≠ 4 → (x < 11 ∨ 16 < x) → J x = I x
theorem cs_G.d {I J : bq_IR} (h : cs_G I J) : cs_D I J := fun x a b _ => h.2 x a b
theorem cs_D.stp {I J K : bq_IR} (h : cs_D I J) (h2 : cs_F J K) : cs_D I K := fun x a b c => (h2.2 x a).trans (h x a b c)
theorem cs_D.tr {I J K : bq_IR} (h : cs_D I J) (h2 : cs_D J K) : cs_D I K := fun x a b c => (h2 x a b c).trans (h x a b c)
def ri_P (t : Nat) (f : Nat → Int32) (X : rd_X) (K : bq_IR) (r : Int32) (good : (Nat → Int32) → Prop) : Prop := match X with
  | .inl s => r = 0 ∧ K 3 2 = nI s
  | .inr p => (tk_S t f p.1 = 3 ∧ r = 1 ∧ K 3 1 = nI (tk_N t f p.1) ∧ good p.2) ∨ (¬ tk_S t f p.1 = 3 ∧ r = 0 ∧ K 3 2 = nI (tk_B t f p.1))
theorem ri_l {t : Nat} {f : Nat → Int32} {X : rd_X} {K : bq_IR} {r : Int32} {good : (Nat → Int32) → Prop} {s : Nat} (hX : X = .inl s) (h1 : r = 0) (h2 : K 3 2 = nI s) : ri_P t f X K r good := by subst hX; exact ⟨h1, h2⟩
theorem ri_y {t : Nat} {f : Nat → Int32} {X : rd_X} {K : bq_IR} {r : Int32} {good : (Nat → Int32) → Prop} {p : Nat × (Nat → Int32)} (hX : X = .inr p) (h0 : tk_S t f p.1 = 3) (h1 : r = 1) (h2 : K 3 1 = nI (tk_N t f p.1)) (h3 : good p.2) : ri_P t f X K r good := by subst hX; exact Or.inl ⟨h0, h1, h2, h3⟩
theorem ri_n {t : Nat} {f : Nat → Int32} {X : rd_X} {K : bq_IR} {r : Int32} {good : (Nat → Int32) → Prop} {p : Nat × (Nat → Int32)} (hX : X = .inr p) (h0 : ¬ tk_S t f p.1 = 3) (h1 : r = 0) (h2 : K 3 2 = nI (tk_B t f p.1)) : ri_P t f X K r good := by subst hX; exact Or.inr ⟨h0, h1, h2⟩
theorem ri_b {t : Nat} {f : Nat → Int32} {X : rd_X} {K : bq_IR} {r : Int32} {good : (Nat → Int32) → Prop} (h : ri_P t f X K r good) : r = 0 ∨ r = 1 := by
  cases X with
  | inl s => exact Or.inl h.1
  | inr p =>
    rcases h with ⟨_, h, _⟩ | ⟨_, h, _⟩
    · exact Or.inr h
    · exact Or.inl h
set_option maxHeartbeats 1000000 in
set_option maxRecDepth 100000 in
theorem c_item_s {z : Nat} {I : bq_IR} {L : bq_LR} {t k i : Nat} {D : Nat → Int32} (ht : I 1 1 = nI t) (ht2 : t ≤ 200) (hk : k ≤ t) (ha : I 3 1 = nI k) (hi5 : i < 5) : bq_FI MX7_readItem z [.ref (z + 3), .ref (z + 1), .ref (z + 11), .int (nI i)] 85 (bq_Rf z) I L (fun r K L' => ri_P t (I 2) (rd_num t (I 2) i (cf_l i) (cf_h i) k D) K r (fun D' => K 12 = upd (I 12) i (D' i) ∧ K 3 5 = I 3 5 ∧ ∀ x, x ≠ 3 → x ≠ 4 → x ≠ 12 → K x = I x) ∧ cs_D I K ∧ L' = L) := by
  refine bq_FIof [some (.ref (z + 3)), some (.ref (z + 1)), some (.ref (z + 11)), some (.int (nI i)), none, none] rfl (Nat.le_of_ble_eq_true rfl) (by decide) rfl (fun _ _ _ h => by rcases ri_b h.1 with h | h <;> rw [h] <;> rfl) ?_
  intro A G hret
  have G : bq_Cx cX7_readItem RX7 6 z (bq_rm MX7_readItem 0 0) "readItem" A := G
  generalize hXe : rd_num t (I 2) i (cf_l i) (cf_h i) k D = X at hret
  generalize hgd : (fun (K : bq_IR) (D' : Nat → Int32) => K 12 = upd (I 12) i (D' i) ∧ K 3 5 = I 3 5 ∧ ∀ x, x ≠ 3 → x ≠ 4 → x ≠ 12 → K x = I x) = good
  have hret : ∀ (pc : Nat) (ls : bq_LS) (r : Int32) (I' : bq_IR) (L' : bq_LR), decode cX7_readItem pc = .ok (.ireturn, 1) → (ri_P t (I 2) X I' r (good I') ∧ cs_D I I' ∧ L' = L) → A 0 0 pc ls [.int r] 85 (bq_Rf z) I' L' := by
    intro pc ls r I' L' hd hp
    subst hgd
    exact hret pc ls r I' L' hd hp
  
  have it : ∀ (j κ mn : Nat) (J : bq_IR), j < mn → mn ≤ 3 → i + j < 8 → κ ≤ t → J 3 1 = nI κ → cs_G I J →
      (∀ K : bq_IR, ¬ (tk_S t (I 2) κ = 2 ∧ cf_l (i + j) ≤ tk_V t (I 2) κ ∧ tk_V t (I 2) κ ≤ cf_h (i + j)) → K 3 2 = nI (tk_B t (I 2) κ) → cs_G I K → A 0 0 53 [some (.ref (z + 3)), some (.ref (z + 1)), some (.ref (z + 11)), some (.int (nI i)), none, none] [] 85 (bq_Rf z) K L) →
      (∀ K : bq_IR, (tk_S t (I 2) κ = 2 ∧ cf_l (i + j) ≤ tk_V t (I 2) κ ∧ tk_V t (I 2) κ ≤ cf_h (i + j)) → K 3 1 = nI (tk_N t (I 2) κ) → K 4 = upd (J 4) j (tk_V t (I 2) κ) → cs_G I K → A 0 0 15 [some (.ref (z + 3)), some (.ref (z + 1)), some (.ref (z + 11)), some (.int (nI i)), some (.int (nI mn)), some (.int (nI (j + 1)))] [] 85 (bq_Rf z) K L) →
      A 0 0 15 [some (.ref (z + 3)), some (.ref (z + 1)), some (.ref (z + 11)), some (.int (nI i)), some (.int (nI mn)), some (.int (nI j))] [] 85 (bq_Rf z) J L := by
    intro j κ mn J hj hmn hrow hκ hJ hG hno hyes
    have hT : J 1 1 = nI t := by rw [hG.2 1 (by decide) (by decide)]; exact ht
    have e2 : J 2 = I 2 := hG.2 2 (by decide) (by decide)
    refine bq_iload (q := 17) G rfl dX7_readItem_15 rfl ?_
    refine bq_iload (q := 19) G rfl dX7_readItem_17 rfl ?_
    refine bq_icmp_ge_f (q := 22) (t := 72) G dX7_readItem_19 rfl (by decide) (nI_ge (a := j) (b := mn) hj (by omega)) ?_
    refine bq_iload (q := 24) G rfl dX7_readItem_22 rfl ?_
    refine bq_iconst (q := 25) (v := 3) G (by decide) dX7_readItem_24 rfl ?_
    refine bq_icmp_ge_f (q := 28) (t := 72) G dX7_readItem_25 rfl (by decide) (nI_ge (a := j) (b := 3) (by omega) (by decide)) ?_
    refine bq_aload_n (q := 29) G rfl dX7_readItem_28 rfl ?_
    refine bq_aload_n (q := 30) G rfl dX7_readItem_29 rfl ?_
    refine bq_callvV (q := 33) G dX7_readItem_30 rfl cl_X7_27 (c_X7_step (t := t) (k := κ) hT ht2 hκ hJ) rfl (by first | assumption | exact ⟨Nat.le_of_ble_eq_true rfl, rfl⟩) rfl ⟨Nat.le_of_ble_eq_true rfl, Nat.le_of_ble_eq_true rfl⟩ (Nat.le_of_ble_eq_true rfl) ⟨Nat.le_of_ble_eq_true rfl, Nat.le_of_ble_eq_true rfl⟩ (fun I30 L30 h30 => ?_)
    obtain ⟨⟨⟨m1, m2⟩, mT, mF⟩, rfl⟩ := h30
    rw [e2] at m1 m2 mT
    have hG1 := hG.stp mF
    have key := cs_Tn (j := i + j) (cf_h99 _ hrow) mT
    have bad : ¬ (I30 3 3 = -2 ∧ (cf_l (i + j) ≤ I30 3 4 ∧ I30 3 4 ≤ cf_h (i + j))) → ∀ l4 l5 : Option Value, A 0 0 53 [some (.ref (z + 3)), some (.ref (z + 1)), some (.ref (z + 11)), some (.int (nI i)), l4, l5] [] 85 (bq_Rf z) I30 L30 := by
      intro h l4 l5
      refine bq_forget G ?_ (hno I30 (fun hv => h (key.mpr hv)) m2 hG1)
      repeat (first | exact bq_le_0 _ | refine bq_le_n ?_ | refine bq_le_s rfl ?_)
    refine bq_aload_n (q := 34) G rfl dX7_readItem_33 rfl ?_
    refine bq_geti (q := 37) G dX7_readItem_34 rfl fl_X7_33 (by first | assumption | exact ⟨Nat.le_of_ble_eq_true rfl, rfl⟩) rfl ?_
    refine bq_bipush (q := 39) (v := -2) G (by decide) dX7_readItem_37 rfl ?_
    refine bq_icmp_ne (t := 53) (q := 42) G dX7_readItem_39 (by decide) rfl (fun c39 => ?_) (fun c39 => ?_)
    · exact bad (fun h => c39 h.1) _ _
    · refine bq_aload_n (q := 43) G rfl dX7_readItem_42 rfl ?_
      refine bq_iload_n (q := 44) G rfl dX7_readItem_43 rfl ?_
      refine bq_iload (q := 46) G rfl dX7_readItem_44 rfl ?_
      refine bq_iadd (q := 47) G dX7_readItem_46 rfl ?_
      rw [nI_add]
      refine bq_callv (q := 50) G dX7_readItem_47 rfl cl_X7_65 (c_X7_isWithin (j := i + j) hrow) rfl (by first | assumption | exact ⟨Nat.le_of_ble_eq_true rfl, rfl⟩) rfl ⟨Nat.le_of_ble_eq_true rfl, Nat.le_of_ble_eq_true rfl⟩ (Nat.le_of_ble_eq_true rfl) ⟨Nat.le_of_ble_eq_true rfl, Nat.le_of_ble_eq_true rfl⟩ rfl ?_
      first | refine bq_ifb_ne (t := 55) (q := 53) G dX7_readItem_50 (by decide) rfl (fun c50 => ?_) (fun c50 => ?_) | refine bq_if_ne (t := 55) (q := 53) G dX7_readItem_50 (by decide) rfl (fun c50 => ?_) (fun c50 => ?_)
      · have hv := key.mp ⟨c39, c50⟩
        have en : I30 3 4 = tk_V t (I 2) κ := by
          rcases mT with ⟨h1, _⟩ | ⟨_, h2⟩ | ⟨h1, _⟩
          · rw [h1] at hv; exact absurd hv.1 (by decide)
          · rcases h2 with ⟨_, h, _⟩ | ⟨h, _⟩
            · exact h
            · rw [c39] at h; exact absurd h (by decide)
          · exact absurd hv.1 h1.2
        refine bq_aload_n (q := 56) G rfl dX7_readItem_55 rfl ?_
        refine bq_getr (q := 59) G dX7_readItem_56 rfl fl_X7_11 (by first | assumption | exact ⟨Nat.le_of_ble_eq_true rfl, rfl⟩) (fun _ _ _ => rfl) (rf_3_0 z) ?_
        refine bq_iload (q := 61) G rfl dX7_readItem_59 rfl ?_
        refine bq_aload_n (q := 62) G rfl dX7_readItem_61 rfl ?_
        refine bq_geti (q := 65) G dX7_readItem_62 rfl fl_X7_69 (by first | assumption | exact ⟨Nat.le_of_ble_eq_true rfl, rfl⟩) rfl ?_
        refine bq_iast (q := 66) (b := j) G dX7_readItem_65 rfl (by first | assumption | exact ⟨Nat.le_of_ble_eq_true rfl, rfl⟩) rfl (by omega) (by decide) ?_
        refine bq_iinc (q := 69) (ls' := [_, _, _, _, _, _]) G dX7_readItem_66 rfl rfl (by first | exact nI_1 _ | exact pk_m1 _ | rfl) (by decide) rfl rfl ?_
        refine bq_goto (q := 15) G dX7_readItem_69 (by decide) ?_
        refine hyes _ hv (by rw [bq_srn1 (by decide)]; exact m1) (by rw [bq_sr_s, en, mF.2 4 (by decide)]) (hG1.n4 _)
      · exact bad (fun h => c50 h.2) _ _
  have n53 : ∀ (s : Nat) (K : bq_IR), X = .inl s → K 3 2 = nI s → cs_D I K → A 0 0 53 [some (.ref (z + 3)), some (.ref (z + 1)), some (.ref (z + 11)), some (.int (nI i)), none, none] [] 85 (bq_Rf z) K L := by
    intro s K hX h2 hD
    refine bq_iconst (q := 54) (v := 0) G (by decide) dX7_readItem_53 rfl ?_
    exact hret _ _ _ _ _ dX7_readItem_54 ⟨ri_l hX rfl h2, hD, rfl⟩
  have tl : ∀ (p : Nat × (Nat → Int32)) (K : bq_IR) (l4 l5 : Option Value), X = .inr p → p.1 ≤ t → K 3 1 = nI p.1 → cs_D I K → (∀ K' : bq_IR, cs_F K K' → good K' p.2) → A 0 0 113 [some (.ref (z + 3)), some (.ref (z + 1)), some (.ref (z + 11)), some (.int (nI i)), l4, l5] [] 85 (bq_Rf z) K L := by
    intro p K l4 l5 hX hp hK hD hg
    have hT : K 1 1 = nI t := by rw [hD 1 (by decide) (by decide) (by decide)]; exact ht
    have e2 : K 2 = I 2 := hD 2 (by decide) (by decide) (by decide)
    refine bq_aload_n (q := 114) G rfl dX7_readItem_113 rfl ?_
    refine bq_aload_n (q := 115) G rfl dX7_readItem_114 rfl ?_
    refine bq_callvV (q := 118) G dX7_readItem_115 rfl cl_X7_27 (c_X7_step (t := t) (k := p.1) hT ht2 hp hK) rfl (by first | assumption | exact ⟨Nat.le_of_ble_eq_true rfl, rfl⟩) rfl ⟨Nat.le_of_ble_eq_true rfl, Nat.le_of_ble_eq_true rfl⟩ (Nat.le_of_ble_eq_true rfl) ⟨Nat.le_of_ble_eq_true rfl, Nat.le_of_ble_eq_true rfl⟩ (fun I115 L115 h115 => ?_)
    obtain ⟨⟨⟨m1, m2⟩, mT, mF⟩, rfl⟩ := h115
    rw [e2] at m1 m2 mT
    refine bq_aload_n (q := 119) G rfl dX7_readItem_118 rfl ?_
    refine bq_geti (q := 122) G dX7_readItem_119 rfl fl_X7_33 (by first | assumption | exact ⟨Nat.le_of_ble_eq_true rfl, rfl⟩) rfl ?_
    refine bq_bipush (q := 124) (v := 59) G (by decide) dX7_readItem_122 rfl ?_
    refine bq_icmp_ne (t := 131) (q := 127) G dX7_readItem_124 (by decide) rfl (fun c124 => ?_) (fun c124 => ?_)
    · refine bq_iconst (q := 132) (v := 0) G (by decide) dX7_readItem_131 rfl ?_
      exact hret _ _ _ _ _ dX7_readItem_132 ⟨ri_n hX (fun h => c124 ((cs_T59 mT).mpr h)) rfl m2, hD.stp mF, rfl⟩
    · refine bq_iconst (q := 128) (v := 1) G (by decide) dX7_readItem_127 rfl ?_
      refine bq_goto (q := 132) G dX7_readItem_128 (by decide) ?_
      exact hret _ _ _ _ _ dX7_readItem_132 ⟨ri_y hX ((cs_T59 mT).mp c124) rfl m1 (hg _ mF), hD.stp mF, rfl⟩
  
  have h5 : ¬ (nI i = 5) := fun h => absurd ((nI_eq (b := 5) (by omega) (by decide)).mp h) (by omega)
  refine bq_iload_n (q := 1) G rfl dX7_readItem_0 rfl ?_
  refine bq_iconst (q := 2) (v := 5) G (by decide) dX7_readItem_1 rfl ?_
  refine bq_icmp_ne_t (t := 9) G dX7_readItem_2 (by decide) h5 ?_
  refine bq_iconst (q := 10) (v := 1) G (by decide) dX7_readItem_9 rfl ?_
  refine bq_istore (q := 12) (ls' := [_, _, _, _, _, _]) G dX7_readItem_10 rfl (by decide) rfl rfl ?_
  refine bq_iconst (q := 13) (v := 0) G (by decide) dX7_readItem_12 rfl ?_
  refine bq_istore (q := 15) (ls' := [_, _, _, _, _, _]) G dX7_readItem_13 rfl (by decide) rfl rfl ?_
  refine it 0 k 1 I (by decide) (by decide) (by omega) hk ha (cs_G.rf I) (fun K hv h2 hG => n53 _ K (by rw [← hXe]; exact rd_num_n hv) h2 hG.d) ?_
  intro K hv h1 h4 hG
  have hXp := rd_num_y (pl := i) (D := D) hv
  rw [Nat.add_zero] at hXp
  have hXq : X = .inr (tk_N t (I 2) k, upd D i (tk_V t (I 2) k)) := hXe.symm.trans hXp
  refine bq_iload (q := 17) G rfl dX7_readItem_15 rfl ?_
  refine bq_iload (q := 19) G rfl dX7_readItem_17 rfl ?_
  refine bq_icmp_ge_t (t := 72) G dX7_readItem_19 (by decide) (nI_le (a := 1) (b := 1) (by decide) (by decide)) ?_
  refine bq_iload_n (q := 73) G rfl dX7_readItem_72 rfl ?_
  refine bq_iconst (q := 74) (v := 5) G (by decide) dX7_readItem_73 rfl ?_
  refine bq_icmp_ne_t (t := 102) G dX7_readItem_74 (by decide) h5 ?_
  refine bq_aload_n (q := 103) G rfl dX7_readItem_102 rfl ?_
  refine bq_iload_n (q := 104) G rfl dX7_readItem_103 rfl ?_
  refine bq_aload_n (q := 105) G rfl dX7_readItem_104 rfl ?_
  refine bq_getr (q := 108) G dX7_readItem_105 rfl fl_X7_11 (by first | assumption | exact ⟨Nat.le_of_ble_eq_true rfl, rfl⟩) (fun _ _ _ => rfl) (rf_3_0 z) ?_
  refine bq_iconst (q := 109) (v := 0) G (by decide) dX7_readItem_108 rfl ?_
  refine bq_iald (q := 110) (b := 0) G dX7_readItem_109 rfl (by first | assumption | exact ⟨Nat.le_of_ble_eq_true rfl, rfl⟩) rfl (by decide) (by decide) ?_
  rw [h4, pk_us]
  refine bq_callv (q := 113) G dX7_readItem_110 rfl cl_X7_76 (c_X0_tellSetting hi5) rfl (by first | assumption | exact ⟨Nat.le_of_ble_eq_true rfl, rfl⟩) rfl ⟨Nat.le_of_ble_eq_true rfl, Nat.le_of_ble_eq_true rfl⟩ (Nat.le_of_ble_eq_true rfl) ⟨Nat.le_of_ble_eq_true rfl, Nat.le_of_ble_eq_true rfl⟩ rfl ?_
  refine tl _ _ _ _ hXq (tk_N_in hk).2.1 (by rw [bq_srn1 (by decide)]; exact h1) (fun x a b c => by rw [bq_sr_n (by omega)]; exact hG.2 x a b) ?_
  intro K' hF
  subst hgd
  refine ⟨?_, ?_, fun x a b c => ?_⟩
  · rw [hF.2 12 (by decide), bq_sr_s, hG.2 12 (by decide) (by decide)]
    show upd (I 12) i (tk_V t (I 2) k) = upd (I 12) i (upd D i (tk_V t (I 2) k) i)
    rw [pk_us]
  · rw [hF.1, bq_srn1 (by decide)]; exact hG.1
  · rw [hF.2 x a, bq_sr_n c]; exact hG.2 x a b
set_option maxHeartbeats 1000000 in
set_option maxRecDepth 100000 in
theorem c_item_b {z : Nat} {I : bq_IR} {L : bq_LR} {t k m : Nat} {D S : Nat → Int32} (ht : I 1 1 = nI t) (ht2 : t ≤ 200) (hk : k ≤ t) (ha : I 3 1 = nI k) (hm : I 11 2 = nI m) (hm8 : m < 8) (hS : bq_MC I 13 S) : bq_FI MX7_readItem z [.ref (z + 3), .ref (z + 1), .ref (z + 11), .int (nI 5)] 85 (bq_Rf z) I L (fun r K L' => ri_P t (I 2) (rd_bind (rd_num t (I 2) (8 + m) 1 64 k D) fun k1 D1 => rd_bind (rd_num t (I 2) (16 + m) 1 40 k1 D1) fun k2 D2 => rd_bind (rd_num t (I 2) (24 + m) 1 40 k2 D2) fun k3 D3 => .inr (k3, upd D3 5 (D3 5 + 1))) K r (fun D' => (bq_MC K 13 (upd (upd (upd (upd S (3 + m) (D' (8 + m))) (11 + m) (D' (16 + m))) (19 + m) (D' (24 + m))) (51 + m) 1) ∧ K 13 0 = I 13 0 ∧ K 13 2 = I 13 2) ∧ K 11 2 = nI (m + 1) ∧ K 12 = I 12 ∧ K 3 5 = I 3 5) ∧ cs_D I K ∧ L' = L) := by
  refine bq_FIof [some (.ref (z + 3)), some (.ref (z + 1)), some (.ref (z + 11)), some (.int (nI 5)), none, none] rfl (Nat.le_of_ble_eq_true rfl) (by decide) rfl (fun _ _ _ h => by rcases ri_b h.1 with h | h <;> rw [h] <;> rfl) ?_
  intro A G hret
  have G : bq_Cx cX7_readItem RX7 6 z (bq_rm MX7_readItem 0 0) "readItem" A := G
  generalize hXe : (rd_bind (rd_num t (I 2) (8 + m) 1 64 k D) fun k1 D1 => rd_bind (rd_num t (I 2) (16 + m) 1 40 k1 D1) fun k2 D2 => rd_bind (rd_num t (I 2) (24 + m) 1 40 k2 D2) fun k3 D3 => .inr (k3, upd D3 5 (D3 5 + 1))) = X at hret
  generalize hgd : (fun (K : bq_IR) (D' : Nat → Int32) => (bq_MC K 13 (upd (upd (upd (upd S (3 + m) (D' (8 + m))) (11 + m) (D' (16 + m))) (19 + m) (D' (24 + m))) (51 + m) 1) ∧ K 13 0 = I 13 0 ∧ K 13 2 = I 13 2) ∧ K 11 2 = nI (m + 1) ∧ K 12 = I 12 ∧ K 3 5 = I 3 5) = good
  have hret : ∀ (pc : Nat) (ls : bq_LS) (r : Int32) (I' : bq_IR) (L' : bq_LR), decode cX7_readItem pc = .ok (.ireturn, 1) → (ri_P t (I 2) X I' r (good I') ∧ cs_D I I' ∧ L' = L) → A 0 0 pc ls [.int r] 85 (bq_Rf z) I' L' := by
    intro pc ls r I' L' hd hp
    subst hgd
    exact hret pc ls r I' L' hd hp
  
  have it : ∀ (j κ mn : Nat) (J : bq_IR), j < mn → mn ≤ 3 → 5 + j < 8 → κ ≤ t → J 3 1 = nI κ → cs_G I J →
      (∀ K : bq_IR, ¬ (tk_S t (I 2) κ = 2 ∧ cf_l (5 + j) ≤ tk_V t (I 2) κ ∧ tk_V t (I 2) κ ≤ cf_h (5 + j)) → K 3 2 = nI (tk_B t (I 2) κ) → cs_G I K → A 0 0 53 [some (.ref (z + 3)), some (.ref (z + 1)), some (.ref (z + 11)), some (.int (nI 5)), none, none] [] 85 (bq_Rf z) K L) →
      (∀ K : bq_IR, (tk_S t (I 2) κ = 2 ∧ cf_l (5 + j) ≤ tk_V t (I 2) κ ∧ tk_V t (I 2) κ ≤ cf_h (5 + j)) → K 3 1 = nI (tk_N t (I 2) κ) → K 4 = upd (J 4) j (tk_V t (I 2) κ) → cs_G I K → A 0 0 15 [some (.ref (z + 3)), some (.ref (z + 1)), some (.ref (z + 11)), some (.int (nI 5)), some (.int (nI mn)), some (.int (nI (j + 1)))] [] 85 (bq_Rf z) K L) →
      A 0 0 15 [some (.ref (z + 3)), some (.ref (z + 1)), some (.ref (z + 11)), some (.int (nI 5)), some (.int (nI mn)), some (.int (nI j))] [] 85 (bq_Rf z) J L := by
    intro j κ mn J hj hmn hrow hκ hJ hG hno hyes
    have hT : J 1 1 = nI t := by rw [hG.2 1 (by decide) (by decide)]; exact ht
    have e2 : J 2 = I 2 := hG.2 2 (by decide) (by decide)
    refine bq_iload (q := 17) G rfl dX7_readItem_15 rfl ?_
    refine bq_iload (q := 19) G rfl dX7_readItem_17 rfl ?_
    refine bq_icmp_ge_f (q := 22) (t := 72) G dX7_readItem_19 rfl (by decide) (nI_ge (a := j) (b := mn) hj (by omega)) ?_
    refine bq_iload (q := 24) G rfl dX7_readItem_22 rfl ?_
    refine bq_iconst (q := 25) (v := 3) G (by decide) dX7_readItem_24 rfl ?_
    refine bq_icmp_ge_f (q := 28) (t := 72) G dX7_readItem_25 rfl (by decide) (nI_ge (a := j) (b := 3) (by omega) (by decide)) ?_
    refine bq_aload_n (q := 29) G rfl dX7_readItem_28 rfl ?_
    refine bq_aload_n (q := 30) G rfl dX7_readItem_29 rfl ?_
    refine bq_callvV (q := 33) G dX7_readItem_30 rfl cl_X7_27 (c_X7_step (t := t) (k := κ) hT ht2 hκ hJ) rfl (by first | assumption | exact ⟨Nat.le_of_ble_eq_true rfl, rfl⟩) rfl ⟨Nat.le_of_ble_eq_true rfl, Nat.le_of_ble_eq_true rfl⟩ (Nat.le_of_ble_eq_true rfl) ⟨Nat.le_of_ble_eq_true rfl, Nat.le_of_ble_eq_true rfl⟩ (fun I30 L30 h30 => ?_)
    obtain ⟨⟨⟨m1, m2⟩, mT, mF⟩, rfl⟩ := h30
    rw [e2] at m1 m2 mT
    have hG1 := hG.stp mF
    have key := cs_Tn (j := 5 + j) (cf_h99 _ hrow) mT
    have bad : ¬ (I30 3 3 = -2 ∧ (cf_l (5 + j) ≤ I30 3 4 ∧ I30 3 4 ≤ cf_h (5 + j))) → ∀ l4 l5 : Option Value, A 0 0 53 [some (.ref (z + 3)), some (.ref (z + 1)), some (.ref (z + 11)), some (.int (nI 5)), l4, l5] [] 85 (bq_Rf z) I30 L30 := by
      intro h l4 l5
      refine bq_forget G ?_ (hno I30 (fun hv => h (key.mpr hv)) m2 hG1)
      repeat (first | exact bq_le_0 _ | refine bq_le_n ?_ | refine bq_le_s rfl ?_)
    refine bq_aload_n (q := 34) G rfl dX7_readItem_33 rfl ?_
    refine bq_geti (q := 37) G dX7_readItem_34 rfl fl_X7_33 (by first | assumption | exact ⟨Nat.le_of_ble_eq_true rfl, rfl⟩) rfl ?_
    refine bq_bipush (q := 39) (v := -2) G (by decide) dX7_readItem_37 rfl ?_
    refine bq_icmp_ne (t := 53) (q := 42) G dX7_readItem_39 (by decide) rfl (fun c39 => ?_) (fun c39 => ?_)
    · exact bad (fun h => c39 h.1) _ _
    · refine bq_aload_n (q := 43) G rfl dX7_readItem_42 rfl ?_
      refine bq_iload_n (q := 44) G rfl dX7_readItem_43 rfl ?_
      refine bq_iload (q := 46) G rfl dX7_readItem_44 rfl ?_
      refine bq_iadd (q := 47) G dX7_readItem_46 rfl ?_
      rw [nI_add]
      refine bq_callv (q := 50) G dX7_readItem_47 rfl cl_X7_65 (c_X7_isWithin (j := 5 + j) hrow) rfl (by first | assumption | exact ⟨Nat.le_of_ble_eq_true rfl, rfl⟩) rfl ⟨Nat.le_of_ble_eq_true rfl, Nat.le_of_ble_eq_true rfl⟩ (Nat.le_of_ble_eq_true rfl) ⟨Nat.le_of_ble_eq_true rfl, Nat.le_of_ble_eq_true rfl⟩ rfl ?_
      first | refine bq_ifb_ne (t := 55) (q := 53) G dX7_readItem_50 (by decide) rfl (fun c50 => ?_) (fun c50 => ?_) | refine bq_if_ne (t := 55) (q := 53) G dX7_readItem_50 (by decide) rfl (fun c50 => ?_) (fun c50 => ?_)
      · have hv := key.mp ⟨c39, c50⟩
        have en : I30 3 4 = tk_V t (I 2) κ := by
          rcases mT with ⟨h1, _⟩ | ⟨_, h2⟩ | ⟨h1, _⟩
          · rw [h1] at hv; exact absurd hv.1 (by decide)
          · rcases h2 with ⟨_, h, _⟩ | ⟨h, _⟩
            · exact h
            · rw [c39] at h; exact absurd h (by decide)
          · exact absurd hv.1 h1.2
        refine bq_aload_n (q := 56) G rfl dX7_readItem_55 rfl ?_
        refine bq_getr (q := 59) G dX7_readItem_56 rfl fl_X7_11 (by first | assumption | exact ⟨Nat.le_of_ble_eq_true rfl, rfl⟩) (fun _ _ _ => rfl) (rf_3_0 z) ?_
        refine bq_iload (q := 61) G rfl dX7_readItem_59 rfl ?_
        refine bq_aload_n (q := 62) G rfl dX7_readItem_61 rfl ?_
        refine bq_geti (q := 65) G dX7_readItem_62 rfl fl_X7_69 (by first | assumption | exact ⟨Nat.le_of_ble_eq_true rfl, rfl⟩) rfl ?_
        refine bq_iast (q := 66) (b := j) G dX7_readItem_65 rfl (by first | assumption | exact ⟨Nat.le_of_ble_eq_true rfl, rfl⟩) rfl (by omega) (by decide) ?_
        refine bq_iinc (q := 69) (ls' := [_, _, _, _, _, _]) G dX7_readItem_66 rfl rfl (by first | exact nI_1 _ | exact pk_m1 _ | rfl) (by decide) rfl rfl ?_
        refine bq_goto (q := 15) G dX7_readItem_69 (by decide) ?_
        refine hyes _ hv (by rw [bq_srn1 (by decide)]; exact m1) (by rw [bq_sr_s, en, mF.2 4 (by decide)]) (hG1.n4 _)
      · exact bad (fun h => c50 h.2) _ _
  have n53 : ∀ (s : Nat) (K : bq_IR), X = .inl s → K 3 2 = nI s → cs_D I K → A 0 0 53 [some (.ref (z + 3)), some (.ref (z + 1)), some (.ref (z + 11)), some (.int (nI 5)), none, none] [] 85 (bq_Rf z) K L := by
    intro s K hX h2 hD
    refine bq_iconst (q := 54) (v := 0) G (by decide) dX7_readItem_53 rfl ?_
    exact hret _ _ _ _ _ dX7_readItem_54 ⟨ri_l hX rfl h2, hD, rfl⟩
  have tl : ∀ (p : Nat × (Nat → Int32)) (K : bq_IR) (l4 l5 : Option Value), X = .inr p → p.1 ≤ t → K 3 1 = nI p.1 → cs_D I K → (∀ K' : bq_IR, cs_F K K' → good K' p.2) → A 0 0 113 [some (.ref (z + 3)), some (.ref (z + 1)), some (.ref (z + 11)), some (.int (nI 5)), l4, l5] [] 85 (bq_Rf z) K L := by
    intro p K l4 l5 hX hp hK hD hg
    have hT : K 1 1 = nI t := by rw [hD 1 (by decide) (by decide) (by decide)]; exact ht
    have e2 : K 2 = I 2 := hD 2 (by decide) (by decide) (by decide)
    refine bq_aload_n (q := 114) G rfl dX7_readItem_113 rfl ?_
    refine bq_aload_n (q := 115) G rfl dX7_readItem_114 rfl ?_
    refine bq_callvV (q := 118) G dX7_readItem_115 rfl cl_X7_27 (c_X7_step (t := t) (k := p.1) hT ht2 hp hK) rfl (by first | assumption | exact ⟨Nat.le_of_ble_eq_true rfl, rfl⟩) rfl ⟨Nat.le_of_ble_eq_true rfl, Nat.le_of_ble_eq_true rfl⟩ (Nat.le_of_ble_eq_true rfl) ⟨Nat.le_of_ble_eq_true rfl, Nat.le_of_ble_eq_true rfl⟩ (fun I115 L115 h115 => ?_)
    obtain ⟨⟨⟨m1, m2⟩, mT, mF⟩, rfl⟩ := h115
    rw [e2] at m1 m2 mT
    refine bq_aload_n (q := 119) G rfl dX7_readItem_118 rfl ?_
    refine bq_geti (q := 122) G dX7_readItem_119 rfl fl_X7_33 (by first | assumption | exact ⟨Nat.le_of_ble_eq_true rfl, rfl⟩) rfl ?_
    refine bq_bipush (q := 124) (v := 59) G (by decide) dX7_readItem_122 rfl ?_
    refine bq_icmp_ne (t := 131) (q := 127) G dX7_readItem_124 (by decide) rfl (fun c124 => ?_) (fun c124 => ?_)
    · refine bq_iconst (q := 132) (v := 0) G (by decide) dX7_readItem_131 rfl ?_
      exact hret _ _ _ _ _ dX7_readItem_132 ⟨ri_n hX (fun h => c124 ((cs_T59 mT).mpr h)) rfl m2, hD.stp mF, rfl⟩
    · refine bq_iconst (q := 128) (v := 1) G (by decide) dX7_readItem_127 rfl ?_
      refine bq_goto (q := 132) G dX7_readItem_128 (by decide) ?_
      exact hret _ _ _ _ _ dX7_readItem_132 ⟨ri_y hX ((cs_T59 mT).mp c124) rfl m1 (hg _ mF), hD.stp mF, rfl⟩
  
  refine bq_iload_n (q := 1) G rfl dX7_readItem_0 rfl ?_
  refine bq_iconst (q := 2) (v := 5) G (by decide) dX7_readItem_1 rfl ?_
  refine bq_icmp_ne_f (q := 5) (t := 9) G dX7_readItem_2 rfl (by decide) rfl ?_
  refine bq_iconst (q := 6) (v := 3) G (by decide) dX7_readItem_5 rfl ?_
  refine bq_goto (q := 10) G dX7_readItem_6 (by decide) ?_
  refine bq_istore (q := 12) (ls' := [_, _, _, _, _, _]) G dX7_readItem_10 rfl (by decide) rfl rfl ?_
  refine bq_iconst (q := 13) (v := 0) G (by decide) dX7_readItem_12 rfl ?_
  refine bq_istore (q := 15) (ls' := [_, _, _, _, _, _]) G dX7_readItem_13 rfl (by decide) rfl rfl ?_
  refine it 0 k 3 I (by decide) (by decide) (by decide) hk ha (cs_G.rf I) (fun K hv h2 hG => n53 _ K (by rw [← hXe, rd_num_n (lo := 1) (hi := 64) hv]; rfl) h2 hG.d) ?_
  intro K hv h1 h4 hG
  rw [rd_num_y (pl := 8 + m) (lo := 1) (hi := 64) (D := D) hv, rd_bind_inr] at hXe
  have hk1 := (tk_N_in (f := I 2) hk).2.1
  generalize tk_V t (I 2) k = V1 at *
  generalize tk_N t (I 2) k = k1 at *
  refine it 1 k1 3 K (by decide) (by decide) (by decide) hk1 h1 hG (fun K hv h2 hG => n53 _ K (by rw [← hXe, rd_num_n (lo := 1) (hi := 40) hv]; rfl) h2 hG.d) ?_
  intro K2 hv2 h12 h42 hG2
  rw [rd_num_y (pl := 16 + m) (lo := 1) (hi := 40) hv2, rd_bind_inr] at hXe
  have hk2 := (tk_N_in (f := I 2) hk1).2.1
  generalize tk_V t (I 2) k1 = V2 at *
  generalize tk_N t (I 2) k1 = k2 at *
  refine it 2 k2 3 K2 (by decide) (by decide) (by decide) hk2 h12 hG2 (fun K hv h2 hG => n53 _ K (by rw [← hXe, rd_num_n (lo := 1) (hi := 40) hv]; rfl) h2 hG.d) ?_
  intro K3 hv3 h13 h43 hG3
  rw [rd_num_y (pl := 24 + m) (lo := 1) (hi := 40) hv3, rd_bind_inr] at hXe
  have hk3 := (tk_N_in (f := I 2) hk2).2.1
  generalize tk_V t (I 2) k2 = V3 at *
  generalize tk_N t (I 2) k2 = k3 at *
  have hS3 : bq_MC K3 13 S := hS.same (hG3.2 13 (by decide) (by decide)) (hG3.2 14 (by decide) (by decide)) (hG3.2 15 (by decide) (by decide)) (hG3.2 16 (by decide) (by decide))
  have n0 : K3 4 0 = V1 := by rw [h43, pk_un (by decide), h42, pk_un (by decide), h4, pk_us]
  have n1 : K3 4 1 = V2 := by rw [h43, pk_un (by decide), h42, pk_us]
  have n2 : K3 4 2 = V3 := by rw [h43, pk_us]
  refine bq_iload (q := 17) G rfl dX7_readItem_15 rfl ?_
  refine bq_iload (q := 19) G rfl dX7_readItem_17 rfl ?_
  refine bq_icmp_ge_t (t := 72) G dX7_readItem_19 (by decide) (nI_le (a := 3) (b := 3) (by decide) (by decide)) ?_
  refine bq_iload_n (q := 73) G rfl dX7_readItem_72 rfl ?_
  refine bq_iconst (q := 74) (v := 5) G (by decide) dX7_readItem_73 rfl ?_
  refine bq_icmp_ne_f (q := 77) (t := 102) G dX7_readItem_74 rfl (by decide) rfl ?_
  refine bq_aload_n (q := 78) G rfl dX7_readItem_77 rfl ?_
  refine bq_aload_n (q := 79) G rfl dX7_readItem_78 rfl ?_
  refine bq_getr (q := 82) G dX7_readItem_79 rfl fl_X7_11 (by first | assumption | exact ⟨Nat.le_of_ble_eq_true rfl, rfl⟩) (fun _ _ _ => rfl) (rf_3_0 z) ?_
  refine bq_iconst (q := 83) (v := 0) G (by decide) dX7_readItem_82 rfl ?_
  refine bq_iald (q := 84) (b := 0) G dX7_readItem_83 rfl (by first | assumption | exact ⟨Nat.le_of_ble_eq_true rfl, rfl⟩) rfl (by decide) (by decide) ?_
  refine bq_aload_n (q := 85) G rfl dX7_readItem_84 rfl ?_
  refine bq_getr (q := 88) G dX7_readItem_85 rfl fl_X7_11 (by first | assumption | exact ⟨Nat.le_of_ble_eq_true rfl, rfl⟩) (fun _ _ _ => rfl) (rf_3_0 z) ?_
  refine bq_iconst (q := 89) (v := 1) G (by decide) dX7_readItem_88 rfl ?_
  refine bq_iald (q := 90) (b := 1) G dX7_readItem_89 rfl (by first | assumption | exact ⟨Nat.le_of_ble_eq_true rfl, rfl⟩) rfl (by decide) (by decide) ?_
  refine bq_aload_n (q := 91) G rfl dX7_readItem_90 rfl ?_
  refine bq_getr (q := 94) G dX7_readItem_91 rfl fl_X7_11 (by first | assumption | exact ⟨Nat.le_of_ble_eq_true rfl, rfl⟩) (fun _ _ _ => rfl) (rf_3_0 z) ?_
  refine bq_iconst (q := 95) (v := 2) G (by decide) dX7_readItem_94 rfl ?_
  refine bq_iald (q := 96) (b := 2) G dX7_readItem_95 rfl (by first | assumption | exact ⟨Nat.le_of_ble_eq_true rfl, rfl⟩) rfl (by decide) (by decide) ?_
  rw [n0, n1, n2]
  refine bq_callvV (q := 99) G dX7_readItem_96 rfl cl_X7_72 (c_X0_tellBroom (m := m) (S := S) ((congrFun (hG3.2 11 (by decide) (by decide)) 2).trans hm) hm8 hS3) rfl (by first | assumption | exact ⟨Nat.le_of_ble_eq_true rfl, rfl⟩) rfl ⟨Nat.le_of_ble_eq_true rfl, Nat.le_of_ble_eq_true rfl⟩ (Nat.le_of_ble_eq_true rfl) ⟨Nat.le_of_ble_eq_true rfl, Nat.le_of_ble_eq_true rfl⟩ (fun I96 L96 h96 => ?_)
  obtain ⟨⟨⟨g1, g2, g3⟩, g4, g5⟩, rfl⟩ := h96
  refine bq_goto (q := 113) G dX7_readItem_99 (by decide) ?_
  refine tl _ _ _ _ hXe.symm hk3 (by rw [g5 3 (by decide) (by decide)]; exact h13) (fun x a b c => by rw [g5 x (by omega) (by omega)]; exact hG3.2 x a b) ?_
  intro K' hF
  subst hgd
  have hx : ∀ x, x ≠ 3 → K' x = I96 x := hF.2
  have p8 : ∀ (D0 : Nat → Int32) (y : Int32), upd (upd (upd (upd D0 (8 + m) V1) (16 + m) V2) (24 + m) V3) 5 y (8 + m) = V1 := fun D0 y => by rw [pk_un (by omega), pk_un (by omega), pk_un (by omega), pk_us]
  have p16 : ∀ (D0 : Nat → Int32) (y : Int32), upd (upd (upd (upd D0 (8 + m) V1) (16 + m) V2) (24 + m) V3) 5 y (16 + m) = V2 := fun D0 y => by rw [pk_un (by omega), pk_un (by omega), pk_us]
  have p24 : ∀ (D0 : Nat → Int32) (y : Int32), upd (upd (upd (upd D0 (8 + m) V1) (16 + m) V2) (24 + m) V3) 5 y (24 + m) = V3 := fun D0 y => by rw [pk_un (by omega), pk_us]
  refine ⟨⟨?_, ?_, ?_⟩, ?_, ?_, ?_⟩
  · dsimp only
    rw [p8, p16, p24]
    exact g1.same (hx _ (by decide)) (hx _ (by decide)) (hx _ (by decide)) (hx _ (by decide))
  · rw [hx 13 (by decide), g2, hG3.2 13 (by decide) (by decide)]
  · rw [hx 13 (by decide), g3, hG3.2 13 (by decide) (by decide)]
  · rw [hx 11 (by decide)]; exact g4
  · rw [hx 12 (by decide), g5 12 (by decide) (by decide), hG3.2 12 (by decide) (by decide)]
  · rw [hF.1, g5 3 (by decide) (by decide)]; exact hG3.1
