/-! the model is made -/
theorem bq_Rel.cg {z : Nat} {D : bq_D} {n : Nat} {R R' : bq_RR} {I : bq_IR} {L : bq_LR} {H : Heap} (h : bq_Rel z D n R I L H) (hR : ∀ a, a < n → R' a = R a) : bq_Rel z D n R' I L H := by
  refine ⟨h.1, ?_⟩
  have e : bq_ws z D n R' I L = bq_ws z D n R I L := by
    unfold bq_ws
    apply List.map_congr_left
    intro a ha
    rw [hR a (List.mem_range.mp ha)]
  rw [e]; exact h.2
theorem bq_cgR {cc : ByteArray} {own nm : String} {nL z : Nat} {Rm : Room} {A : bq_A} {cells slots pc n : Nat} {ls : bq_LS} {st : List Value} {R R' : bq_RR} {I : bq_IR} {L : bq_LR} (G : bq_Cx cc own nL z Rm nm A) (hR : ∀ a, a < n → R' a = R a) (k : A cells slots pc ls st n R' I L) : A cells slots pc ls st n R I L := by
  obtain ⟨p, l, e, s, m, args, below, meth, c, D, Q, hx, hb, hml, hown, hts, hK, hz, hnm, rfl⟩ := G
  intro H locs arr hRl hS hl
  exact k H locs arr (hRl.cg hR) hS hl
def kr_h (z k : Nat) : Nat → Option Nat := fun j => if j < k then bq_Rf z 75 j else none
theorem kr_hs {z k a : Nat} (h : bq_Rf z 75 k = some a) : va_up (kr_h z k) k (some a) = kr_h z (k + 1) := by
  funext j
  show (if j = k then some a else (if j < k then bq_Rf z 75 j else none)) = if j < k + 1 then bq_Rf z 75 j else none
  by_cases e : j = k
  · rw [if_pos e, if_pos (show j < k + 1 by omega), e, h]
  · rw [if_neg e]
    by_cases h2 : j < k
    · rw [if_pos h2, if_pos (show j < k + 1 by omega)]
    · rw [if_neg h2, if_neg (show ¬ j < k + 1 by omega)]
theorem kr_hn {z k : Nat} (h : bq_Rf z 75 k = none) : kr_h z k = kr_h z (k + 1) := by
  funext j
  show (if j < k then bq_Rf z 75 j else none) = if j < k + 1 then bq_Rf z 75 j else none
  by_cases h2 : j < k
  · rw [if_pos h2, if_pos (show j < k + 1 by omega)]
  · rw [if_neg h2]
    by_cases e : j = k
    · rw [if_pos (show j < k + 1 by omega), e, h]
    · rw [if_neg (show ¬ j < k + 1 by omega)]
theorem rd_all0 (f D : Nat → Int32) : rd_all 0 f (0 + 1) 0 0 D = .inr D := by
  rw [rd_all_s, if_pos]
  exact tk_S_0 (show tk_c 0 f 0 < 0 by show (-1 : Int32) < 0; decide)
def kr_T0 : Nat → Int32 := gs_cp 32 (rd_D0 (fun _ => 0)) (fun _ => 0)
def kr_M (I : bq_IR) : Prop := (I 76 = (fun _ => 0) ∧ I 77 = kr_T0 ∧ I 79 = gs_beg kr_T0 0 (fun _ => 0) ∧ I 80 = (fun _ => 0) ∧ I 81 = (fun _ => 0) ∧ I 83 = (fun _ => 0)) ∧ (I 75 2 = 0 ∧ I 75 7 = 0 ∧ I 75 11 = 0) ∧ I 82 0 = 0 ∧ I 82 1 = 0
set_option maxHeartbeats 4000000 in
set_option maxRecDepth 100000 in
theorem c_X9_init {z : Nat} {R : bq_RR} {I : bq_IR} {L : bq_LR} (hRd : ∀ x, x < 75 → R x = bq_Rf z x) (hR : ∀ x, 75 ≤ x → R x = fun _ => none) (hI : ∀ x, 75 ≤ x → I x = fun _ => 0) (hL : ∀ x, 75 ≤ x → L x = fun _ => 0) : bq_FK MX9_init z [.ref (z + 75)] 76 R I L 9 982 85 (fun R' I' L' => R' = bq_Rf z ∧ (∀ x, x < 75 → I' x = I x) ∧ kr_M I' ∧ L' = L) := by
  refine bq_FKof [some (.ref (z + 75))] rfl (Nat.le_of_ble_eq_true rfl) (by decide) rfl ?_
  intro A G hret
  have G : bq_Cx cX9_init RX9 1 z (bq_rm MX9_init 9 982) "<init>" A := G
  refine bq_aload_n (q := 1) G rfl dX9_init_0 rfl ?_
  refine bq_objInit (q := 4) G dX9_init_1 rfl wm_X9_1 (Nat.le_of_ble_eq_true rfl) (Nat.le_of_ble_eq_true rfl) ?_
  refine bq_nameR (P := fun R' => R' 75 = kr_h z 1 ∧ ∀ x, x ≠ 75 → R' x = R x) ⟨by rw [hR 75 (by decide)]; exact (kr_hn (z := z) (k := 0) rfl ▸ by funext j; rfl), fun _ _ => rfl⟩ (fun R0 hR0 => ?_)
  have hF0 : bq_Fr R0 I L 76 := fun x hx => ⟨(hR0.2 x (by omega)).trans (hR x (by omega)), hI x (by omega), hL x (by omega)⟩
  refine bq_aload_n (q := 5) G rfl dX9_init_4 rfl ?_
  refine bq_sipush (q := 8) (v := 200) G (by decide) dX9_init_5 rfl ?_
  refine bq_newa (q := 10) G dX9_init_8 rfl wy_int (Or.inl ⟨rfl, rfl⟩) rfl hF0 rfl (by decide) (Nat.le_of_ble_eq_true rfl) (Nat.le_of_ble_eq_true rfl) ?_
  refine bq_putr (q := 13) G dX9_init_10 rfl fl_X9_7 (by first | assumption | exact ⟨Nat.le_of_ble_eq_true rfl, rfl⟩) (fun _ _ _ => rfl) rfl rfl ⟨rfl, rfl, rfl⟩ ?_
  refine bq_nrm (cells' := 1) (slots' := 200) (n' := 77) rfl rfl rfl ?_
  refine bq_nameR (P := fun R' => R' 75 = kr_h z 3 ∧ ∀ x, x ≠ 75 → R' x = R x) ⟨by rw [bq_sr_s, hR0.1, kr_hs (k := 1) rfl, kr_hn (z := z) (k := 2) rfl], fun x hx => by rw [bq_sr_n hx]; exact hR0.2 x hx⟩ (fun R1 hR1 => ?_)
  have hF1 : bq_Fr R1 I L 77 := fun x hx => ⟨(hR1.2 x (by omega)).trans (hR x (by omega)), hI x (by omega), hL x (by omega)⟩
  refine bq_aload_n (q := 14) G rfl dX9_init_13 rfl ?_
  refine bq_bipush (q := 16) (v := 32) G (by decide) dX9_init_14 rfl ?_
  refine bq_newa (q := 18) G dX9_init_16 rfl wy_int (Or.inl ⟨rfl, rfl⟩) rfl hF1 rfl (by decide) (Nat.le_of_ble_eq_true rfl) (Nat.le_of_ble_eq_true rfl) ?_
  refine bq_putr (q := 21) G dX9_init_18 rfl fl_X9_13 (by first | assumption | exact ⟨Nat.le_of_ble_eq_true rfl, rfl⟩) (fun _ _ _ => rfl) rfl rfl ⟨rfl, rfl, rfl⟩ ?_
  refine bq_nrm (cells' := 2) (slots' := 232) (n' := 78) rfl rfl rfl ?_
  refine bq_nameR (P := fun R' => R' 75 = kr_h z 4 ∧ ∀ x, x ≠ 75 → R' x = R x) ⟨by rw [bq_sr_s, hR1.1, kr_hs (k := 3) rfl], fun x hx => by rw [bq_sr_n hx]; exact hR1.2 x hx⟩ (fun R2 hR2 => ?_)
  have hF2 : bq_Fr R2 I L 78 := fun x hx => ⟨(hR2.2 x (by omega)).trans (hR x (by omega)), hI x (by omega), hL x (by omega)⟩
  refine bq_aload_n (q := 22) G rfl dX9_init_21 rfl ?_
  refine bq_bipush (q := 24) (v := 32) G (by decide) dX9_init_22 rfl ?_
  refine bq_newa (q := 26) G dX9_init_24 rfl wy_int (Or.inl ⟨rfl, rfl⟩) rfl hF2 rfl (by decide) (Nat.le_of_ble_eq_true rfl) (Nat.le_of_ble_eq_true rfl) ?_
  refine bq_putr (q := 29) G dX9_init_26 rfl fl_X9_16 (by first | assumption | exact ⟨Nat.le_of_ble_eq_true rfl, rfl⟩) (fun _ _ _ => rfl) rfl rfl ⟨rfl, rfl, rfl⟩ ?_
  refine bq_nrm (cells' := 3) (slots' := 264) (n' := 79) rfl rfl rfl ?_
  refine bq_nameR (P := fun R' => R' 75 = kr_h z 5 ∧ ∀ x, x ≠ 75 → R' x = R x) ⟨by rw [bq_sr_s, hR2.1, kr_hs (k := 4) rfl], fun x hx => by rw [bq_sr_n hx]; exact hR2.2 x hx⟩ (fun R3 hR3 => ?_)
  have hF3 : bq_Fr R3 I L 79 := fun x hx => ⟨(hR3.2 x (by omega)).trans (hR x (by omega)), hI x (by omega), hL x (by omega)⟩
  refine bq_aload_n (q := 30) G rfl dX9_init_29 rfl ?_
  refine bq_bipush (q := 32) (v := 59) G (by decide) dX9_init_30 rfl ?_
  refine bq_newa (q := 34) G dX9_init_32 rfl wy_int (Or.inl ⟨rfl, rfl⟩) rfl hF3 rfl (by decide) (Nat.le_of_ble_eq_true rfl) (Nat.le_of_ble_eq_true rfl) ?_
  refine bq_putr (q := 37) G dX9_init_34 rfl fl_X9_19 (by first | assumption | exact ⟨Nat.le_of_ble_eq_true rfl, rfl⟩) (fun _ _ _ => rfl) rfl rfl ⟨rfl, rfl, rfl⟩ ?_
  refine bq_nrm (cells' := 4) (slots' := 323) (n' := 80) rfl rfl rfl ?_
  refine bq_nameR (P := fun R' => R' 75 = kr_h z 6 ∧ ∀ x, x ≠ 75 → R' x = R x) ⟨by rw [bq_sr_s, hR3.1, kr_hs (k := 5) rfl], fun x hx => by rw [bq_sr_n hx]; exact hR3.2 x hx⟩ (fun R4 hR4 => ?_)
  have hF4 : bq_Fr R4 I L 80 := fun x hx => ⟨(hR4.2 x (by omega)).trans (hR x (by omega)), hI x (by omega), hL x (by omega)⟩
  refine bq_aload_n (q := 38) G rfl dX9_init_37 rfl ?_
  refine bq_sipush (q := 41) (v := 472) G (by decide) dX9_init_38 rfl ?_
  refine bq_newa (q := 43) G dX9_init_41 rfl wy_int (Or.inl ⟨rfl, rfl⟩) rfl hF4 rfl (by decide) (Nat.le_of_ble_eq_true rfl) (Nat.le_of_ble_eq_true rfl) ?_
  refine bq_putr (q := 46) G dX9_init_43 rfl fl_X9_22 (by first | assumption | exact ⟨Nat.le_of_ble_eq_true rfl, rfl⟩) (fun _ _ _ => rfl) rfl rfl ⟨rfl, rfl, rfl⟩ ?_
  refine bq_nrm (cells' := 5) (slots' := 795) (n' := 81) rfl rfl rfl ?_
  refine bq_nameR (P := fun R' => R' 75 = kr_h z 8 ∧ ∀ x, x ≠ 75 → R' x = R x) ⟨by rw [bq_sr_s, hR4.1, kr_hs (k := 6) rfl, kr_hn (z := z) (k := 7) rfl], fun x hx => by rw [bq_sr_n hx]; exact hR4.2 x hx⟩ (fun R5 hR5 => ?_)
  have hF5 : bq_Fr R5 I L 81 := fun x hx => ⟨(hR5.2 x (by omega)).trans (hR x (by omega)), hI x (by omega), hL x (by omega)⟩
  refine bq_aload_n (q := 47) G rfl dX9_init_46 rfl ?_
  refine bq_bipush (q := 49) (v := 118) G (by decide) dX9_init_47 rfl ?_
  refine bq_newa (q := 51) G dX9_init_49 rfl wy_int (Or.inl ⟨rfl, rfl⟩) rfl hF5 rfl (by decide) (Nat.le_of_ble_eq_true rfl) (Nat.le_of_ble_eq_true rfl) ?_
  refine bq_putr (q := 54) G dX9_init_51 rfl fl_X9_25 (by first | assumption | exact ⟨Nat.le_of_ble_eq_true rfl, rfl⟩) (fun _ _ _ => rfl) rfl rfl ⟨rfl, rfl, rfl⟩ ?_
  refine bq_nrm (cells' := 6) (slots' := 913) (n' := 82) rfl rfl rfl ?_
  refine bq_nameR (P := fun R' => R' 75 = kr_h z 9 ∧ ∀ x, x ≠ 75 → R' x = R x) ⟨by rw [bq_sr_s, hR5.1, kr_hs (k := 8) rfl], fun x hx => by rw [bq_sr_n hx]; exact hR5.2 x hx⟩ (fun R6 hR6 => ?_)
  have hF6 : bq_Fr R6 I L 82 := fun x hx => ⟨(hR6.2 x (by omega)).trans (hR x (by omega)), hI x (by omega), hL x (by omega)⟩
  refine bq_aload_n (q := 55) G rfl dX9_init_54 rfl ?_
  refine bq_iconst (q := 56) (v := 2) G (by decide) dX9_init_55 rfl ?_
  refine bq_newa (q := 58) G dX9_init_56 rfl wy_boolean (Or.inr (Or.inr ⟨rfl, rfl⟩)) rfl hF6 rfl (by decide) (Nat.le_of_ble_eq_true rfl) (Nat.le_of_ble_eq_true rfl) ?_
  refine bq_putr (q := 61) G dX9_init_58 rfl fl_X9_28 (by first | assumption | exact ⟨Nat.le_of_ble_eq_true rfl, rfl⟩) (fun _ _ _ => rfl) rfl rfl ⟨rfl, rfl, rfl⟩ ?_
  refine bq_nrm (cells' := 7) (slots' := 915) (n' := 83) rfl rfl rfl ?_
  refine bq_nameR (P := fun R' => R' 75 = kr_h z 10 ∧ ∀ x, x ≠ 75 → R' x = R x) ⟨by rw [bq_sr_s, hR6.1, kr_hs (k := 9) rfl], fun x hx => by rw [bq_sr_n hx]; exact hR6.2 x hx⟩ (fun R7 hR7 => ?_)
  have hF7 : bq_Fr R7 I L 83 := fun x hx => ⟨(hR7.2 x (by omega)).trans (hR x (by omega)), hI x (by omega), hL x (by omega)⟩
  refine bq_aload_n (q := 62) G rfl dX9_init_61 rfl ?_
  refine bq_bipush (q := 64) (v := 8) G (by decide) dX9_init_62 rfl ?_
  refine bq_newa (q := 66) G dX9_init_64 rfl wy_int (Or.inl ⟨rfl, rfl⟩) rfl hF7 rfl (by decide) (Nat.le_of_ble_eq_true rfl) (Nat.le_of_ble_eq_true rfl) ?_
  refine bq_putr (q := 69) G dX9_init_66 rfl fl_X9_32 (by first | assumption | exact ⟨Nat.le_of_ble_eq_true rfl, rfl⟩) (fun _ _ _ => rfl) rfl rfl ⟨rfl, rfl, rfl⟩ ?_
  refine bq_nrm (cells' := 8) (slots' := 923) (n' := 84) rfl rfl rfl ?_
  refine bq_nameR (P := fun R' => R' 75 = kr_h z 19 ∧ ∀ x, x ≠ 75 → R' x = R x) ⟨by rw [bq_sr_s, hR7.1, kr_hs (k := 10) rfl, kr_hn (z := z) (k := 11) rfl, kr_hn (z := z) (k := 12) rfl, kr_hn (z := z) (k := 13) rfl, kr_hn (z := z) (k := 14) rfl, kr_hn (z := z) (k := 15) rfl, kr_hn (z := z) (k := 16) rfl, kr_hn (z := z) (k := 17) rfl, kr_hn (z := z) (k := 18) rfl], fun x hx => by rw [bq_sr_n hx]; exact hR7.2 x hx⟩ (fun R8 hR8 => ?_)
  have hF8 : bq_Fr R8 I L 84 := fun x hx => ⟨(hR8.2 x (by omega)).trans (hR x (by omega)), hI x (by omega), hL x (by omega)⟩
  refine bq_aload_n (q := 70) G rfl dX9_init_69 rfl ?_
  refine bq_bipush (q := 72) (v := 59) G (by decide) dX9_init_70 rfl ?_
  refine bq_newa (q := 74) G dX9_init_72 rfl wy_int (Or.inl ⟨rfl, rfl⟩) rfl hF8 rfl (by decide) (Nat.le_of_ble_eq_true rfl) (Nat.le_of_ble_eq_true rfl) ?_
  refine bq_putr (q := 77) G dX9_init_74 rfl fl_X9_35 (by first | assumption | exact ⟨Nat.le_of_ble_eq_true rfl, rfl⟩) (fun _ _ _ => rfl) rfl rfl ⟨rfl, rfl, rfl⟩ ?_
  refine bq_nrm (cells' := 9) (slots' := 982) (n' := 85) rfl rfl rfl ?_
  refine bq_nameR (P := fun R' => R' 75 = kr_h z 20 ∧ ∀ x, x ≠ 75 → R' x = R x) ⟨by rw [bq_sr_s, hR8.1, kr_hs (k := 19) rfl], fun x hx => by rw [bq_sr_n hx]; exact hR8.2 x hx⟩ (fun R9 hR9 => ?_)
  refine bq_cgR (R' := bq_Rf z) G ?_ ?_
  · intro a ha
    rcases (show a < 75 ∨ a = 75 ∨ a = 76 ∨ a = 77 ∨ a = 78 ∨ a = 79 ∨ a = 80 ∨ a = 81 ∨ a = 82 ∨ a = 83 ∨ a = 84 by omega) with h | rfl | rfl | rfl | rfl | rfl | rfl | rfl | rfl | rfl | rfl
    · rw [hR9.2 a (by omega)]; exact (hRd a h).symm
    · rw [hR9.1]
      funext j
      unfold kr_h
      by_cases h : j < 20
      · rw [if_pos h]
      · rw [if_neg h]
        obtain ⟨i, rfl⟩ : ∃ i, j = i + 20 := ⟨j - 20, by omega⟩
        rfl
    · rw [hR9.2 _ (by decide), hR _ (by decide)]; rfl
    · rw [hR9.2 _ (by decide), hR _ (by decide)]; rfl
    · rw [hR9.2 _ (by decide), hR _ (by decide)]; rfl
    · rw [hR9.2 _ (by decide), hR _ (by decide)]; rfl
    · rw [hR9.2 _ (by decide), hR _ (by decide)]; rfl
    · rw [hR9.2 _ (by decide), hR _ (by decide)]; rfl
    · rw [hR9.2 _ (by decide), hR _ (by decide)]; rfl
    · rw [hR9.2 _ (by decide), hR _ (by decide)]; rfl
    · rw [hR9.2 _ (by decide), hR _ (by decide)]; rfl
  · have e0 : I 75 2 = nI 0 := by rw [hI 75 (by decide)]; rfl
    have e76 : I 76 = fun _ => 0 := hI 76 (by decide)
    have e78 : I 78 = fun _ => 0 := hI 78 (by decide)
    refine bq_aload_n (q := 78) G rfl dX9_init_77 rfl ?_
    refine bq_callvI (q := 81) G dX9_init_78 rfl cl_X9_38 (c_X9_reads (t := 0) e0 (by decide)) rfl (by first | assumption | exact ⟨Nat.le_of_ble_eq_true rfl, rfl⟩) rfl ⟨Nat.le_of_ble_eq_true rfl, Nat.le_of_ble_eq_true rfl⟩ (Nat.le_of_ble_eq_true rfl) ⟨Nat.le_of_ble_eq_true rfl, Nat.le_of_ble_eq_true rfl⟩ (fun r78 I78 L78 h78 => ?_)
    obtain ⟨hP, k1, k2, rfl⟩ := h78
    rw [rd_all0] at hP
    obtain ⟨rfl, hD⟩ := hP
    rw [e78] at hD
    have hok := rd_ok0 (fun _ => 0)
    have hA : ¬ I78 78 1 = 0 := by
      rw [hD]
      intro h
      have := hok.1.2.1.1
      rw [h] at this
      exact absurd this (by decide)
    refine bq_pop (q := 82) G rfl dX9_init_81 rfl ?_
    refine bq_aload_n (q := 83) G rfl dX9_init_82 rfl ?_
    refine bq_callv (q := 86) G dX9_init_83 rfl cl_X9_42 (c_X9_tells (m := 0) hA (by rw [hD]; exact hok.2.1.1) (by decide)) rfl (by first | assumption | exact ⟨Nat.le_of_ble_eq_true rfl, rfl⟩) rfl ⟨Nat.le_of_ble_eq_true rfl, Nat.le_of_ble_eq_true rfl⟩ (Nat.le_of_ble_eq_true rfl) ⟨Nat.le_of_ble_eq_true rfl, Nat.le_of_ble_eq_true rfl⟩ rfl ?_
    have n77 : I78 77 = fun _ => 0 := (k2 77 (by decide) (by decide)).trans (hI 77 (by decide))
    have n79 : I78 79 = fun _ => 0 := (k2 79 (by decide) (by decide)).trans (hI 79 (by decide))
    have hT : gs_cp 32 (I78 78) (I78 77) = kr_T0 := by rw [hD, n77]; rfl
    rw [hT]
    refine hret _ _ _ _ _ dX9_init_86 ⟨rfl, ?_, ⟨⟨?_, ?_, ?_, ?_, ?_, ?_⟩, ⟨?_, ?_, ?_⟩, ?_, ?_⟩, rfl⟩
    · intro x hx
      rw [bq_sr_n (by omega), bq_sr_n (by omega), bq_sr_n (by omega), bq_sr_n (by omega)]; exact k2 x (by omega) (by omega)
    · rw [bq_sr_n (by decide), bq_sr_n (by decide), bq_sr_n (by decide), bq_sr_n (by decide)]; exact (k2 76 (by decide) (by decide)).trans e76
    · rw [bq_sr_n (by decide), bq_sr_n (by decide), bq_sr_n (by decide), bq_sr_s]
    · rw [bq_sr_n (by decide), bq_sr_n (by decide), bq_sr_s, n79]
    · rw [bq_sr_n (by decide), bq_sr_n (by decide), bq_sr_n (by decide), bq_sr_n (by decide)]; exact (k2 80 (by decide) (by decide)).trans (hI 80 (by decide))
    · rw [bq_sr_n (by decide), bq_sr_n (by decide), bq_sr_n (by decide), bq_sr_n (by decide)]; exact (k2 81 (by decide) (by decide)).trans (hI 81 (by decide))
    · rw [bq_sr_n (by decide), bq_sr_n (by decide), bq_sr_n (by decide), bq_sr_n (by decide)]; exact (k2 83 (by decide) (by decide)).trans (hI 83 (by decide))
    · rw [bq_sr_n (by decide), bq_sr_s, pk_un (by decide), pk_un (by decide), k1 2 (by decide)]; exact e0
    · rw [bq_sr_n (by decide), bq_sr_s, pk_un (by decide), pk_us]
    · rw [bq_sr_n (by decide), bq_sr_s, pk_us]
    · rw [bq_sr_s, pk_un (by decide), pk_us]
    · rw [bq_sr_s, pk_us]
