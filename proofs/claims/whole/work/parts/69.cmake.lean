def kr_f (z k : Nat) : Nat → Option Nat := fun j => if j < k then bq_Rf z 0 j else none
theorem kr_fs {z k a : Nat} (h : bq_Rf z 0 k = some a) : va_up (kr_f z k) k (some a) = kr_f z (k + 1) := by
  funext j
  show (if j = k then some a else (if j < k then bq_Rf z 0 j else none)) = if j < k + 1 then bq_Rf z 0 j else none
  by_cases e : j = k
  · rw [if_pos e, if_pos (show j < k + 1 by omega), e, h]
  · rw [if_neg e]
    by_cases h2 : j < k
    · rw [if_pos h2, if_pos (show j < k + 1 by omega)]
    · rw [if_neg h2, if_neg (show ¬ j < k + 1 by omega)]
/-- how far the object is made: k fields, n cells -/
def kr_S (z k n : Nat) (R : bq_RR) : Prop := R 0 = kr_f z k ∧ (∀ x, 0 < x → x < n → R x = bq_Rf z x) ∧ ∀ x, n ≤ x → R x = fun _ => none
def kr_I5 (c : Nat) (I : bq_IR) : Prop := ((∀ j, j < 5 → I 6 j = cf_s j) ∧ I 5 2 = 0 ∧ (bq_MC I 7 (fun _ => 0) ∧ I 7 0 = 0 ∧ I 7 2 = 0)) ∧ ∀ x, (x < 5 ∨ c < x) → I x = fun _ => 0
theorem kr_S.fr {z k n : Nat} {R : bq_RR} {I : bq_IR} {L : bq_LR} (h : kr_S z k n R) (hI : ∀ x, n ≤ x → I x = fun _ => 0) (hL : ∀ x, n ≤ x → L x = fun _ => 0) : bq_Fr R I L n := fun x hx => ⟨h.2.2 x hx, hI x hx, hL x hx⟩
set_option maxHeartbeats 4000000 in
set_option maxRecDepth 100000 in
theorem c_X8_init {z : Nat} : bq_FK MX8_init z [.ref (z + 0)] 1 (fun _ _ => none) (fun _ _ => 0) (fun _ _ => 0) 74 770 75 (fun R' I' L' => (∀ x, x < 75 → R' x = bq_Rf z x) ∧ (∀ x, 75 ≤ x → R' x = fun _ => none) ∧ kr_I5 16 I' ∧ L' = bq_sr (fun _ _ => 0) 72 (vp_updL (fun _ => 0) 1 1)) := by
  refine bq_FKof [some (.ref (z + 0)), none] rfl (Nat.le_of_ble_eq_true rfl) (by decide) rfl ?_
  intro A G hret
  have G : bq_Cx cX8_init RX8 2 z (bq_rm MX8_init 74 770) "<init>" A := G
  refine bq_aload_n (q := 1) G rfl dX8_init_0 rfl ?_
  refine bq_objInit (q := 4) G dX8_init_1 rfl wm_X8_1 (Nat.le_of_ble_eq_true rfl) (Nat.le_of_ble_eq_true rfl) ?_
  refine bq_nameR (P := fun R' => R' 0 = kr_f z 0 ∧ ∀ x, 1 ≤ x → R' x = fun _ => none) ⟨by funext j; rfl, fun x hx => rfl⟩ (fun R0 hq => ?_)
  obtain ⟨h00, h0F⟩ := hq
  have hR0 : kr_S z 0 1 R0 := ⟨h00, fun x h1 h2 => by omega, fun x hx => h0F x hx⟩
  have hF0 : bq_Fr R0 _ _ 1 := hR0.fr (fun x _ => rfl) (fun x _ => rfl)
  refine bq_aload_n (q := 5) G rfl dX8_init_4 rfl ?_
  refine bq_new (q := 8) (ci := 3) G dX8_init_5 rfl (by decide) wl_X8_7 wa_X3 wi_X3 rfl hF0 (Nat.le_of_ble_eq_true rfl) (Nat.le_of_ble_eq_true rfl) ?_
  refine bq_dup (q := 9) G rfl dX8_init_8 rfl ?_
  refine bq_calli (q := 12) (n' := 3) G dX8_init_9 rfl cl_X8_9 rfl (c_X3_init (hF0.s (by decide))) rfl rfl ⟨Nat.le_of_ble_eq_true rfl, Nat.le_of_ble_eq_true rfl⟩ (Nat.le_of_ble_eq_true rfl) ⟨Nat.le_of_ble_eq_true rfl, Nat.le_of_ble_eq_true rfl⟩ rfl ?_
  refine bq_putr (q := 15) G dX8_init_12 rfl fl_X8_10 (by first | assumption | exact ⟨Nat.le_of_ble_eq_true rfl, rfl⟩) (fun _ _ _ => rfl) rfl rfl ⟨rfl, rfl, rfl⟩ ?_
  refine bq_nrm (cells' := 2) (slots' := 202) (n' := 3) rfl rfl rfl ?_
  refine bq_nameR (P := kr_S z 1 3) ⟨?_, ?_, ?_⟩ (fun R1 hR1 => ?_)
  · rw [bq_sr_s, bq_sr_n (by decide), hR0.1]
    exact kr_fs rfl
  · intro x h1 h2
    rcases (show x = 1 ∨ x = 2 ∨ x < 1 by omega) with rfl | rfl | h
    · rw [bq_sr_n (by decide), bq_sr_s, hR0.2.2 _ (by decide)]
      funext j; rcases j with _ | _ | j <;> rfl
    · rw [bq_sr_n (by decide), bq_sr_n (by decide), hR0.2.2 _ (by decide)]; rfl
    · rw [bq_sr_n (by omega), bq_sr_n (by omega)]; exact hR0.2.1 x h1 h
  · intro x hx; rw [bq_sr_n (by omega), bq_sr_n (by omega)]; exact hR0.2.2 x (by omega)
  · skip
    have hF1 : bq_Fr R1 _ _ 3 := hR1.fr (fun x _ => rfl) (fun x _ => rfl)
    refine bq_aload_n (q := 16) G rfl dX8_init_15 rfl ?_
    refine bq_new (q := 19) (ci := 7) G dX8_init_16 rfl (by decide) wl_X8_16 wa_X7 wi_X7 rfl hF1 (Nat.le_of_ble_eq_true rfl) (Nat.le_of_ble_eq_true rfl) ?_
    refine bq_dup (q := 20) G rfl dX8_init_19 rfl ?_
    refine bq_calli (q := 23) (n' := 5) G dX8_init_20 rfl cl_X8_18 rfl (c_X7_init (hF1.s (by decide))) rfl rfl ⟨Nat.le_of_ble_eq_true rfl, Nat.le_of_ble_eq_true rfl⟩ (Nat.le_of_ble_eq_true rfl) ⟨Nat.le_of_ble_eq_true rfl, Nat.le_of_ble_eq_true rfl⟩ rfl ?_
    refine bq_putr (q := 26) G dX8_init_23 rfl fl_X8_19 (by first | assumption | exact ⟨Nat.le_of_ble_eq_true rfl, rfl⟩) (fun _ _ _ => rfl) rfl rfl ⟨rfl, rfl, rfl⟩ ?_
    refine bq_nrm (cells' := 4) (slots' := 211) (n' := 5) rfl rfl rfl ?_
    refine bq_nameR (P := kr_S z 2 5) ⟨?_, ?_, ?_⟩ (fun R2 hR2 => ?_)
    · rw [bq_sr_s, bq_sr_n (by decide), hR1.1]
      exact kr_fs rfl
    · intro x h1 h2
      rcases (show x = 3 ∨ x = 4 ∨ x < 3 by omega) with rfl | rfl | h
      · rw [bq_sr_n (by decide), bq_sr_s, hR1.2.2 _ (by decide)]
        funext j; rcases j with _ | _ | j <;> rfl
      · rw [bq_sr_n (by decide), bq_sr_n (by decide), hR1.2.2 _ (by decide)]; rfl
      · rw [bq_sr_n (by omega), bq_sr_n (by omega)]; exact hR1.2.1 x h1 h
    · intro x hx; rw [bq_sr_n (by omega), bq_sr_n (by omega)]; exact hR1.2.2 x (by omega)
    · skip
      have hF2 : bq_Fr R2 _ _ 5 := hR2.fr (fun x _ => rfl) (fun x _ => rfl)
      refine bq_aload_n (q := 27) G rfl dX8_init_26 rfl ?_
      refine bq_new (q := 30) (ci := 0) G dX8_init_27 rfl (by decide) wl_X8_23 wa_X0 wi_X0 rfl hF2 (Nat.le_of_ble_eq_true rfl) (Nat.le_of_ble_eq_true rfl) ?_
      refine bq_dup (q := 31) G rfl dX8_init_30 rfl ?_
      refine bq_calliK (q := 34) (n' := 11) G dX8_init_31 rfl cl_X8_25 rfl (c_X0_init (c := 5) (hF2.s (by decide)) (hR2.2.2 5 (by decide)) rfl rfl rfl rfl rfl rfl) rfl rfl ⟨Nat.le_of_ble_eq_true rfl, Nat.le_of_ble_eq_true rfl⟩ (Nat.le_of_ble_eq_true rfl) ⟨Nat.le_of_ble_eq_true rfl, Nat.le_of_ble_eq_true rfl⟩ (fun Q2 I5 L5 hq => ?_)
      obtain ⟨⟨q1, q2, q3⟩, ⟨i1, i2, i3, i4⟩, rfl⟩ := hq
      have hI5 : kr_I5 10 I5 := ⟨⟨i1, i2, i3⟩, fun x hx => i4 x (by omega)⟩
      refine bq_putr (q := 37) G dX8_init_34 rfl fl_X8_26 (by first | assumption | exact ⟨Nat.le_of_ble_eq_true rfl, rfl⟩) (fun _ _ _ => rfl) rfl rfl ⟨rfl, rfl, rfl⟩ ?_
      refine bq_nrm (cells' := 10) (slots' := 255) (n' := 11) rfl rfl rfl ?_
      refine bq_nameR (P := kr_S z 3 11) ⟨?_, ?_, ?_⟩ (fun R3 hR3 => ?_)
      · rw [bq_sr_s, q3 0 (by decide) (by decide), hR2.1]
        exact kr_fs rfl
      · intro x h1 h2
        rcases (show x = 5 ∨ x = 7 ∨ x = 6 ∨ x = 8 ∨ x = 9 ∨ x = 10 ∨ x < 5 by omega) with rfl | rfl | rfl | rfl | rfl | rfl | h
        · rw [bq_sr_n (by decide), q1]; funext j; rcases j with _ | _ | j <;> rfl
        · rw [bq_sr_n (by decide), q2]; rfl
        · rw [bq_sr_n (by decide), q3 _ (by decide) (by decide), hR2.2.2 _ (by decide)]; rfl
        · rw [bq_sr_n (by decide), q3 _ (by decide) (by decide), hR2.2.2 _ (by decide)]; rfl
        · rw [bq_sr_n (by decide), q3 _ (by decide) (by decide), hR2.2.2 _ (by decide)]; rfl
        · rw [bq_sr_n (by decide), q3 _ (by decide) (by decide), hR2.2.2 _ (by decide)]; rfl
        · rw [bq_sr_n (by omega), q3 x (by omega) (by omega)]; exact hR2.2.1 x h1 h
      · intro x hx; rw [bq_sr_n (by omega), q3 x (by omega) (by omega)]; exact hR2.2.2 x (by omega)
      · skip
        have hF3 : bq_Fr R3 _ _ 11 := hR3.fr (fun x hx => hI5.2 x (by omega)) (fun x _ => rfl)
        refine bq_aload_n (q := 38) G rfl dX8_init_37 rfl ?_
        refine bq_new (q := 41) (ci := 0) G dX8_init_38 rfl (by decide) wl_X8_23 wa_X0 wi_X0 rfl hF3 (Nat.le_of_ble_eq_true rfl) (Nat.le_of_ble_eq_true rfl) ?_
        refine bq_dup (q := 42) G rfl dX8_init_41 rfl ?_
        refine bq_calliK (q := 45) (n' := 17) G dX8_init_42 rfl cl_X8_25 rfl (c_X0_init (c := 11) (hF3.s (by decide)) (hR3.2.2 11 (by decide)) rfl rfl rfl rfl rfl rfl) rfl rfl ⟨Nat.le_of_ble_eq_true rfl, Nat.le_of_ble_eq_true rfl⟩ (Nat.le_of_ble_eq_true rfl) ⟨Nat.le_of_ble_eq_true rfl, Nat.le_of_ble_eq_true rfl⟩ (fun Q3 I11 L11 hq => ?_)
        obtain ⟨⟨q1, q2, q3⟩, ⟨i1, i2, i3, i4⟩, rfl⟩ := hq
        have hI11 : kr_I5 16 I11 := ⟨⟨fun j hj => by rw [i4 6 (by decide)]; exact hI5.1.1 j hj, by rw [i4 5 (by decide)]; exact hI5.1.2.1, hI5.1.2.2.1.same (i4 7 (by decide)) (i4 8 (by decide)) (i4 9 (by decide)) (i4 10 (by decide)), by rw [i4 7 (by decide)]; exact hI5.1.2.2.2.1, by rw [i4 7 (by decide)]; exact hI5.1.2.2.2.2⟩, fun x hx => by rw [i4 x (by omega)]; exact hI5.2 x (by omega)⟩
        refine bq_putr (q := 48) G dX8_init_45 rfl fl_X8_30 (by first | assumption | exact ⟨Nat.le_of_ble_eq_true rfl, rfl⟩) (fun _ _ _ => rfl) rfl rfl ⟨rfl, rfl, rfl⟩ ?_
        refine bq_nrm (cells' := 16) (slots' := 299) (n' := 17) rfl rfl rfl ?_
        refine bq_nameR (P := kr_S z 4 17) ⟨?_, ?_, ?_⟩ (fun R4 hR4 => ?_)
        · rw [bq_sr_s, q3 0 (by decide) (by decide), hR3.1]
          exact kr_fs rfl
        · intro x h1 h2
          rcases (show x = 11 ∨ x = 13 ∨ x = 12 ∨ x = 14 ∨ x = 15 ∨ x = 16 ∨ x < 11 by omega) with rfl | rfl | rfl | rfl | rfl | rfl | h
          · rw [bq_sr_n (by decide), q1]; funext j; rcases j with _ | _ | j <;> rfl
          · rw [bq_sr_n (by decide), q2]; rfl
          · rw [bq_sr_n (by decide), q3 _ (by decide) (by decide), hR3.2.2 _ (by decide)]; rfl
          · rw [bq_sr_n (by decide), q3 _ (by decide) (by decide), hR3.2.2 _ (by decide)]; rfl
          · rw [bq_sr_n (by decide), q3 _ (by decide) (by decide), hR3.2.2 _ (by decide)]; rfl
          · rw [bq_sr_n (by decide), q3 _ (by decide) (by decide), hR3.2.2 _ (by decide)]; rfl
          · rw [bq_sr_n (by omega), q3 x (by omega) (by omega)]; exact hR3.2.1 x h1 h
        · intro x hx; rw [bq_sr_n (by omega), q3 x (by omega) (by omega)]; exact hR3.2.2 x (by omega)
        · skip
          have hF4 : bq_Fr R4 _ _ 17 := hR4.fr (fun x hx => hI11.2 x (by omega)) (fun x _ => rfl)
          refine bq_aload_n (q := 49) G rfl dX8_init_48 rfl ?_
          refine bq_new (q := 52) (ci := 5) G dX8_init_49 rfl (by decide) wl_X8_33 wa_X5 wi_X5 rfl hF4 (Nat.le_of_ble_eq_true rfl) (Nat.le_of_ble_eq_true rfl) ?_
          refine bq_dup (q := 53) G rfl dX8_init_52 rfl ?_
          refine bq_calli (q := 56) (n' := 21) G dX8_init_53 rfl cl_X8_35 rfl (c_X5_init (a := 17) (hF4.s (by decide)) (hR4.2.2 17 (by decide)) rfl rfl rfl rfl) rfl rfl ⟨Nat.le_of_ble_eq_true rfl, Nat.le_of_ble_eq_true rfl⟩ (Nat.le_of_ble_eq_true rfl) ⟨Nat.le_of_ble_eq_true rfl, Nat.le_of_ble_eq_true rfl⟩ rfl ?_
          refine bq_putr (q := 59) G dX8_init_56 rfl fl_X8_36 (by first | assumption | exact ⟨Nat.le_of_ble_eq_true rfl, rfl⟩) (fun _ _ _ => rfl) rfl rfl ⟨rfl, rfl, rfl⟩ ?_
          refine bq_nrm (cells' := 20) (slots' := 335) (n' := 21) rfl rfl rfl ?_
          refine bq_nameR (P := kr_S z 5 21) ⟨?_, ?_, ?_⟩ (fun R5 hR5 => ?_)
          · rw [bq_sr_s, bq_sr_n (by decide), hR4.1]
            exact kr_fs rfl
          · intro x h1 h2
            rcases (show x = 17 ∨ x = 18 ∨ x = 19 ∨ x = 20 ∨ x < 17 by omega) with rfl | rfl | rfl | rfl | h
            · rw [bq_sr_n (by decide), bq_sr_s]
              rfl
            · rw [bq_sr_n (by decide), bq_sr_n (by decide), hR4.2.2 _ (by decide)]; rfl
            · rw [bq_sr_n (by decide), bq_sr_n (by decide), hR4.2.2 _ (by decide)]; rfl
            · rw [bq_sr_n (by decide), bq_sr_n (by decide), hR4.2.2 _ (by decide)]; rfl
            · rw [bq_sr_n (by omega), bq_sr_n (by omega)]; exact hR4.2.1 x h1 h
          · intro x hx; rw [bq_sr_n (by omega), bq_sr_n (by omega)]; exact hR4.2.2 x (by omega)
          · skip
            have hF5 : bq_Fr R5 _ _ 21 := hR5.fr (fun x hx => hI11.2 x (by omega)) (fun x _ => rfl)
            refine bq_aload_n (q := 60) G rfl dX8_init_59 rfl ?_
            refine bq_new (q := 63) (ci := 5) G dX8_init_60 rfl (by decide) wl_X8_33 wa_X5 wi_X5 rfl hF5 (Nat.le_of_ble_eq_true rfl) (Nat.le_of_ble_eq_true rfl) ?_
            refine bq_dup (q := 64) G rfl dX8_init_63 rfl ?_
            refine bq_calli (q := 67) (n' := 25) G dX8_init_64 rfl cl_X8_35 rfl (c_X5_init (a := 21) (hF5.s (by decide)) (hR5.2.2 21 (by decide)) rfl rfl rfl rfl) rfl rfl ⟨Nat.le_of_ble_eq_true rfl, Nat.le_of_ble_eq_true rfl⟩ (Nat.le_of_ble_eq_true rfl) ⟨Nat.le_of_ble_eq_true rfl, Nat.le_of_ble_eq_true rfl⟩ rfl ?_
            refine bq_putr (q := 70) G dX8_init_67 rfl fl_X8_40 (by first | assumption | exact ⟨Nat.le_of_ble_eq_true rfl, rfl⟩) (fun _ _ _ => rfl) rfl rfl ⟨rfl, rfl, rfl⟩ ?_
            refine bq_nrm (cells' := 24) (slots' := 371) (n' := 25) rfl rfl rfl ?_
            refine bq_nameR (P := kr_S z 6 25) ⟨?_, ?_, ?_⟩ (fun R6 hR6 => ?_)
            · rw [bq_sr_s, bq_sr_n (by decide), hR5.1]
              exact kr_fs rfl
            · intro x h1 h2
              rcases (show x = 21 ∨ x = 22 ∨ x = 23 ∨ x = 24 ∨ x < 21 by omega) with rfl | rfl | rfl | rfl | h
              · rw [bq_sr_n (by decide), bq_sr_s]
                rfl
              · rw [bq_sr_n (by decide), bq_sr_n (by decide), hR5.2.2 _ (by decide)]; rfl
              · rw [bq_sr_n (by decide), bq_sr_n (by decide), hR5.2.2 _ (by decide)]; rfl
              · rw [bq_sr_n (by decide), bq_sr_n (by decide), hR5.2.2 _ (by decide)]; rfl
              · rw [bq_sr_n (by omega), bq_sr_n (by omega)]; exact hR5.2.1 x h1 h
            · intro x hx; rw [bq_sr_n (by omega), bq_sr_n (by omega)]; exact hR5.2.2 x (by omega)
            · skip
              have hF6 : bq_Fr R6 _ _ 25 := hR6.fr (fun x hx => hI11.2 x (by omega)) (fun x _ => rfl)
              refine bq_aload_n (q := 71) G rfl dX8_init_70 rfl ?_
              refine bq_new (q := 74) (ci := 6) G dX8_init_71 rfl (by decide) wl_X8_43 wa_X6 wi_X6 rfl hF6 (Nat.le_of_ble_eq_true rfl) (Nat.le_of_ble_eq_true rfl) ?_
              refine bq_dup (q := 75) G rfl dX8_init_74 rfl ?_
              refine bq_calliK (q := 78) (n' := 59) G dX8_init_75 rfl cl_X8_45 rfl (c_X6_init (hF6.s (by decide)) (hR6.2.2 25 (by decide))) rfl rfl ⟨Nat.le_of_ble_eq_true rfl, Nat.le_of_ble_eq_true rfl⟩ (Nat.le_of_ble_eq_true rfl) ⟨Nat.le_of_ble_eq_true rfl, Nat.le_of_ble_eq_true rfl⟩ (fun Q6 I25 L25 hq => ?_)
              obtain ⟨⟨q1, q2, q3⟩, rfl, rfl⟩ := hq
              refine bq_putr (q := 81) G dX8_init_78 rfl fl_X8_46 (by first | assumption | exact ⟨Nat.le_of_ble_eq_true rfl, rfl⟩) (fun _ _ _ => rfl) rfl rfl ⟨rfl, rfl, rfl⟩ ?_
              refine bq_nrm (cells' := 58) (slots' := 670) (n' := 59) rfl rfl rfl ?_
              refine bq_nameR (P := kr_S z 7 59) ⟨?_, ?_, ?_⟩ (fun R7 hR7 => ?_)
              · rw [bq_sr_s, q2 0 (by decide), hR6.1]
                exact kr_fs rfl
              · intro x h1 h2
                rw [bq_sr_n (by omega)]
                rcases Nat.lt_or_ge x 25 with h | h
                · rw [q2 x h]; exact hR6.2.1 x h1 h
                · exact q1 x h h2
              · intro x hx; rw [bq_sr_n (by omega)]; exact q3 x hx
              · skip
                have hI25 : kr_I5 16 I25 := hI11
                have hF7 : bq_Fr R7 _ _ 59 := hR7.fr (fun x hx => hI25.2 x (by omega)) (fun x _ => rfl)
                refine bq_aload_n (q := 82) G rfl dX8_init_81 rfl ?_
                refine bq_iconst (q := 83) (v := 2) G (by decide) dX8_init_82 rfl ?_
                refine bq_newr (q := 86) G dX8_init_83 rfl wl_X8_33 rfl hF7 rfl (by decide) (Nat.le_of_ble_eq_true rfl) (Nat.le_of_ble_eq_true rfl) ?_
                refine bq_putr (q := 89) G dX8_init_86 rfl fl_X8_50 (by first | assumption | exact ⟨Nat.le_of_ble_eq_true rfl, rfl⟩) (fun _ _ _ => rfl) rfl rfl ⟨rfl, rfl, rfl⟩ ?_
                refine bq_iconst (q := 90) (v := 0) G (by decide) dX8_init_89 rfl ?_
                refine bq_istore_n (q := 91) (ls' := [_, _]) G dX8_init_90 rfl (by decide) rfl rfl ?_
                refine bq_nrm (cells' := 59) (slots' := 672) (n' := 60) rfl rfl rfl ?_
                refine bq_nameR (P := fun R' => R' 0 = kr_f z 8 ∧ (R' 59 = fun j => if j < 0 then some (z + (60 + 4 * j)) else none) ∧ (∀ x, 0 < x → x < 60 → x ≠ 59 → R' x = bq_Rf z x) ∧ ∀ x, 60 ≤ x → R' x = fun _ => none) ⟨?_, ?_, ?_, ?_⟩ (fun U0 hU0 => ?_)
                · rw [bq_sr_s, hR7.1]
                  exact kr_fs rfl
                · rw [bq_sr_n (by decide), hR7.2.2 59 (by decide)]
                  funext j
                  rw [if_neg (by omega)]
                · intro x h1 h2 h3; rw [bq_sr_n (by omega)]; exact hR7.2.1 x h1 (by omega)
                · intro x hx; rw [bq_sr_n (by omega)]; exact hR7.2.2 x (by omega)
                · skip
                  obtain ⟨u01, u02, u03, u04⟩ := hU0
                  have hG0 : bq_Fr U0 _ _ 60 := fun x hx => ⟨u04 x hx, hI25.2 x (by omega), rfl⟩
                  refine bq_iload_n (q := 92) G rfl dX8_init_91 rfl ?_
                  refine bq_iconst (q := 93) (v := 2) G (by decide) dX8_init_92 rfl ?_
                  refine bq_icmp_ge_f (q := 96) (t := 115) G dX8_init_93 rfl (by decide) (nI_ge (a := 0) (b := 2) (by decide) (by decide)) ?_
                  refine bq_aload_n (q := 97) G rfl dX8_init_96 rfl ?_
                  refine bq_getr (q := 100) G dX8_init_97 rfl fl_X8_50 (by first | assumption | exact ⟨Nat.le_of_ble_eq_true rfl, rfl⟩) (fun _ _ _ => rfl) ((congrFun u01 7).trans rfl) ?_
                  refine bq_iload_n (q := 101) G rfl dX8_init_100 rfl ?_
                  refine bq_new (q := 104) (ci := 5) G dX8_init_101 rfl (by decide) wl_X8_33 wa_X5 wi_X5 rfl hG0 (Nat.le_of_ble_eq_true rfl) (Nat.le_of_ble_eq_true rfl) ?_
                  refine bq_dup (q := 105) G rfl dX8_init_104 rfl ?_
                  refine bq_calli (q := 108) (n' := 64) G dX8_init_105 rfl cl_X8_35 rfl (c_X5_init (a := 60) (hG0.s (by decide)) (u04 60 (by decide)) rfl rfl rfl rfl) rfl rfl ⟨Nat.le_of_ble_eq_true rfl, Nat.le_of_ble_eq_true rfl⟩ (Nat.le_of_ble_eq_true rfl) ⟨Nat.le_of_ble_eq_true rfl, Nat.le_of_ble_eq_true rfl⟩ rfl ?_
                  refine bq_aast (q := 109) (b := 0) G dX8_init_108 rfl (by first | assumption | exact ⟨Nat.le_of_ble_eq_true rfl, rfl⟩) (by first | assumption | exact ⟨Nat.le_of_ble_eq_true rfl, rfl⟩) rfl (by decide) (by decide) ?_
                  refine bq_iinc (q := 112) (ls' := [_, _]) G dX8_init_109 rfl rfl (show nI 0 + 1 = nI 1 from nI_1 0) (by decide) rfl rfl ?_
                  refine bq_goto (q := 91) G dX8_init_112 (by decide) ?_
                  refine bq_nrm (cells' := 63) (slots' := 708) (n' := 64) rfl rfl rfl ?_
                  refine bq_nameR (P := fun R' => R' 0 = kr_f z 8 ∧ (R' 59 = fun j => if j < 1 then some (z + (60 + 4 * j)) else none) ∧ (∀ x, 0 < x → x < 64 → x ≠ 59 → R' x = bq_Rf z x) ∧ ∀ x, 64 ≤ x → R' x = fun _ => none) ⟨?_, ?_, ?_, ?_⟩ (fun U1 hU1 => ?_)
                  · rw [bq_sr_n (by decide), bq_sr_n (by decide)]; exact u01
                  · rw [bq_sr_s, bq_sr_n (by decide), u02]
                    exact kr_ring (i := 0) (o := 60)
                  · intro x h1 h2 h3
                    rcases (show x = 60 ∨ x = 61 ∨ x = 62 ∨ x = 63 ∨ x < 60 by omega) with rfl | rfl | rfl | rfl | h
                    · rw [bq_sr_n (by decide), bq_sr_s]; rfl
                    · rw [bq_sr_n (by decide), bq_sr_n (by decide), u04 _ (by decide)]; rfl
                    · rw [bq_sr_n (by decide), bq_sr_n (by decide), u04 _ (by decide)]; rfl
                    · rw [bq_sr_n (by decide), bq_sr_n (by decide), u04 _ (by decide)]; rfl
                    · rw [bq_sr_n h3, bq_sr_n (by omega)]; exact u03 x h1 h h3
                  · intro x hx; rw [bq_sr_n (by omega), bq_sr_n (by omega)]; exact u04 x (by omega)
                  · skip
                    obtain ⟨u11, u12, u13, u14⟩ := hU1
                    have hG1 : bq_Fr U1 _ _ 64 := fun x hx => ⟨u14 x hx, hI25.2 x (by omega), rfl⟩
                    refine bq_iload_n (q := 92) G rfl dX8_init_91 rfl ?_
                    refine bq_iconst (q := 93) (v := 2) G (by decide) dX8_init_92 rfl ?_
                    refine bq_icmp_ge_f (q := 96) (t := 115) G dX8_init_93 rfl (by decide) (nI_ge (a := 1) (b := 2) (by decide) (by decide)) ?_
                    refine bq_aload_n (q := 97) G rfl dX8_init_96 rfl ?_
                    refine bq_getr (q := 100) G dX8_init_97 rfl fl_X8_50 (by first | assumption | exact ⟨Nat.le_of_ble_eq_true rfl, rfl⟩) (fun _ _ _ => rfl) ((congrFun u11 7).trans rfl) ?_
                    refine bq_iload_n (q := 101) G rfl dX8_init_100 rfl ?_
                    refine bq_new (q := 104) (ci := 5) G dX8_init_101 rfl (by decide) wl_X8_33 wa_X5 wi_X5 rfl hG1 (Nat.le_of_ble_eq_true rfl) (Nat.le_of_ble_eq_true rfl) ?_
                    refine bq_dup (q := 105) G rfl dX8_init_104 rfl ?_
                    refine bq_calli (q := 108) (n' := 68) G dX8_init_105 rfl cl_X8_35 rfl (c_X5_init (a := 64) (hG1.s (by decide)) (u14 64 (by decide)) rfl rfl rfl rfl) rfl rfl ⟨Nat.le_of_ble_eq_true rfl, Nat.le_of_ble_eq_true rfl⟩ (Nat.le_of_ble_eq_true rfl) ⟨Nat.le_of_ble_eq_true rfl, Nat.le_of_ble_eq_true rfl⟩ rfl ?_
                    refine bq_aast (q := 109) (b := 1) G dX8_init_108 rfl (by first | assumption | exact ⟨Nat.le_of_ble_eq_true rfl, rfl⟩) (by first | assumption | exact ⟨Nat.le_of_ble_eq_true rfl, rfl⟩) rfl (by decide) (by decide) ?_
                    refine bq_iinc (q := 112) (ls' := [_, _]) G dX8_init_109 rfl rfl (show nI 1 + 1 = nI 2 from nI_1 1) (by decide) rfl rfl ?_
                    refine bq_goto (q := 91) G dX8_init_112 (by decide) ?_
                    refine bq_nrm (cells' := 67) (slots' := 744) (n' := 68) rfl rfl rfl ?_
                    refine bq_nameR (P := fun R' => R' 0 = kr_f z 8 ∧ (R' 59 = fun j => if j < 2 then some (z + (60 + 4 * j)) else none) ∧ (∀ x, 0 < x → x < 68 → x ≠ 59 → R' x = bq_Rf z x) ∧ ∀ x, 68 ≤ x → R' x = fun _ => none) ⟨?_, ?_, ?_, ?_⟩ (fun U2 hU2 => ?_)
                    · rw [bq_sr_n (by decide), bq_sr_n (by decide)]; exact u11
                    · rw [bq_sr_s, bq_sr_n (by decide), u12]
                      exact kr_ring (i := 1) (o := 60)
                    · intro x h1 h2 h3
                      rcases (show x = 64 ∨ x = 65 ∨ x = 66 ∨ x = 67 ∨ x < 64 by omega) with rfl | rfl | rfl | rfl | h
                      · rw [bq_sr_n (by decide), bq_sr_s]; rfl
                      · rw [bq_sr_n (by decide), bq_sr_n (by decide), u14 _ (by decide)]; rfl
                      · rw [bq_sr_n (by decide), bq_sr_n (by decide), u14 _ (by decide)]; rfl
                      · rw [bq_sr_n (by decide), bq_sr_n (by decide), u14 _ (by decide)]; rfl
                      · rw [bq_sr_n h3, bq_sr_n (by omega)]; exact u13 x h1 h h3
                    · intro x hx; rw [bq_sr_n (by omega), bq_sr_n (by omega)]; exact u14 x (by omega)
                    · skip
                      obtain ⟨u21, u22, u23, u24⟩ := hU2
                      have hR8 : kr_S z 8 68 U2 := ⟨u21, fun x h1 h2 => by
                        by_cases h : x = 59
                        · subst h; rw [u22]; rfl
                        · exact u23 x h1 h2 h, u24⟩
                      have hF8 : bq_Fr U2 _ _ 68 := hR8.fr (fun x hx => hI25.2 x (by omega)) (fun x _ => rfl)
                      refine bq_iload_n (q := 92) G rfl dX8_init_91 rfl ?_
                      refine bq_iconst (q := 93) (v := 2) G (by decide) dX8_init_92 rfl ?_
                      refine bq_icmp_ge_t (t := 115) G dX8_init_93 (by decide) (nI_le (a := 2) (b := 2) (by decide) (by decide)) ?_
                      refine bq_aload_n (q := 116) G rfl dX8_init_115 rfl ?_
                      refine bq_iconst (q := 117) (v := 2) G (by decide) dX8_init_116 rfl ?_
                      refine bq_newa (q := 119) G dX8_init_117 rfl wy_boolean (Or.inr (Or.inr ⟨rfl, rfl⟩)) rfl hF8 rfl (by decide) (Nat.le_of_ble_eq_true rfl) (Nat.le_of_ble_eq_true rfl) ?_
                      refine bq_putr (q := 122) G dX8_init_119 rfl fl_X8_54 (by first | assumption | exact ⟨Nat.le_of_ble_eq_true rfl, rfl⟩) (fun _ _ _ => rfl) rfl rfl ⟨rfl, rfl, rfl⟩ ?_
                      refine bq_nrm (cells' := 68) (slots' := 746) (n' := 69) rfl rfl rfl ?_
                      refine bq_nameR (P := kr_S z 9 69) ⟨?_, ?_, ?_⟩ (fun R9 hR9 => ?_)
                      · rw [bq_sr_s, hR8.1]
                        exact kr_fs rfl
                      · intro x h1 h2
                        rcases (show x = 68 ∨ x < 68 by omega) with rfl | h
                        · rw [bq_sr_n (by decide), hR8.2.2 _ (by decide)]; rfl
                        · rw [bq_sr_n (by omega)]; exact hR8.2.1 x h1 h
                      · intro x hx; rw [bq_sr_n (by omega)]; exact hR8.2.2 x (by omega)
                      · skip
                        have hF9 : bq_Fr R9 _ _ 69 := hR9.fr (fun x hx => hI25.2 x (by omega)) (fun x _ => rfl)
                        refine bq_aload_n (q := 123) G rfl dX8_init_122 rfl ?_
                        refine bq_new (q := 126) (ci := 4) G dX8_init_123 rfl (by decide) wl_X8_58 wa_X4 wi_X4 rfl hF9 (Nat.le_of_ble_eq_true rfl) (Nat.le_of_ble_eq_true rfl) ?_
                        refine bq_dup (q := 127) G rfl dX8_init_126 rfl ?_
                        refine bq_calli (q := 130) (n' := 72) G dX8_init_127 rfl cl_X8_60 rfl (c_X4_init (hF9.s (by decide))) rfl rfl ⟨Nat.le_of_ble_eq_true rfl, Nat.le_of_ble_eq_true rfl⟩ (Nat.le_of_ble_eq_true rfl) ⟨Nat.le_of_ble_eq_true rfl, Nat.le_of_ble_eq_true rfl⟩ rfl ?_
                        refine bq_putr (q := 133) G dX8_init_130 rfl fl_X8_61 (by first | assumption | exact ⟨Nat.le_of_ble_eq_true rfl, rfl⟩) (fun _ _ _ => rfl) rfl rfl ⟨rfl, rfl, rfl⟩ ?_
                        refine bq_nrm (cells' := 71) (slots' := 757) (n' := 72) rfl rfl rfl ?_
                        refine bq_nameR (P := kr_S z 10 72) ⟨?_, ?_, ?_⟩ (fun R10 hR10 => ?_)
                        · rw [bq_sr_s, bq_sr_n (by decide), hR9.1]
                          exact kr_fs rfl
                        · intro x h1 h2
                          rcases (show x = 69 ∨ x = 70 ∨ x = 71 ∨ x < 69 by omega) with rfl | rfl | rfl | h
                          · rw [bq_sr_n (by decide), bq_sr_s, hR9.2.2 _ (by decide)]
                            funext j; rcases j with _ | _ | j <;> rfl
                          · rw [bq_sr_n (by decide), bq_sr_n (by decide), hR9.2.2 _ (by decide)]; rfl
                          · rw [bq_sr_n (by decide), bq_sr_n (by decide), hR9.2.2 _ (by decide)]; rfl
                          · rw [bq_sr_n (by omega), bq_sr_n (by omega)]; exact hR9.2.1 x h1 h
                        · intro x hx; rw [bq_sr_n (by omega), bq_sr_n (by omega)]; exact hR9.2.2 x (by omega)
                        · skip
                          have hF10 : bq_Fr R10 _ _ 72 := hR10.fr (fun x hx => hI25.2 x (by omega)) (fun x _ => rfl)
                          refine bq_aload_n (q := 134) G rfl dX8_init_133 rfl ?_
                          refine bq_new (q := 137) (ci := 1) G dX8_init_134 rfl (by decide) wl_X8_65 wa_X1 wi_X1 rfl hF10 (Nat.le_of_ble_eq_true rfl) (Nat.le_of_ble_eq_true rfl) ?_
                          refine bq_dup (q := 138) G rfl dX8_init_137 rfl ?_
                          refine bq_calliN (q := 141) G dX8_init_138 rfl ⟨rfl, Or.inl ⟨rfl, rfl⟩⟩ (c_X1_init) rfl ⟨Nat.le_of_ble_eq_true rfl, Nat.le_of_ble_eq_true rfl⟩ (Nat.le_of_ble_eq_true rfl) ⟨Nat.le_of_ble_eq_true rfl, Nat.le_of_ble_eq_true rfl⟩ rfl ?_
                          refine bq_putr (q := 144) G dX8_init_141 rfl fl_X8_68 (by first | assumption | exact ⟨Nat.le_of_ble_eq_true rfl, rfl⟩) (fun _ _ _ => rfl) rfl rfl ⟨rfl, rfl, rfl⟩ ?_
                          refine bq_nrm (cells' := 72) (slots' := 759) (n' := 73) rfl rfl rfl ?_
                          refine bq_nameR (P := kr_S z 11 73) ⟨?_, ?_, ?_⟩ (fun R11 hR11 => ?_)
                          · rw [bq_sr_s, hR10.1]
                            exact kr_fs rfl
                          · intro x h1 h2
                            rcases (show x = 72 ∨ x < 72 by omega) with rfl | h
                            · rw [bq_sr_n (by decide), hR10.2.2 _ (by decide)]; rfl
                            · rw [bq_sr_n (by omega), ]; exact hR10.2.1 x h1 h
                          · intro x hx; rw [bq_sr_n (by omega)]; exact hR10.2.2 x (by omega)
                          · skip
                            have hF11 : bq_Fr R11 _ (bq_sr (fun _ _ => 0) 72 (vp_updL (fun _ => 0) 1 1)) 73 := hR11.fr (fun x hx => hI25.2 x (by omega)) (fun x hx => bq_sr_n (by omega))
                            refine bq_aload_n (q := 145) G rfl dX8_init_144 rfl ?_
                            refine bq_bipush (q := 147) (v := 10) G (by decide) dX8_init_145 rfl ?_
                            refine bq_newa (q := 149) G dX8_init_147 rfl wy_long (Or.inr (Or.inl ⟨rfl, rfl⟩)) rfl hF11 rfl (by decide) (Nat.le_of_ble_eq_true rfl) (Nat.le_of_ble_eq_true rfl) ?_
                            refine bq_putr (q := 152) G dX8_init_149 rfl fl_X8_72 (by first | assumption | exact ⟨Nat.le_of_ble_eq_true rfl, rfl⟩) (fun _ _ _ => rfl) rfl rfl ⟨rfl, rfl, rfl⟩ ?_
                            refine bq_nrm (cells' := 73) (slots' := 769) (n' := 74) rfl rfl rfl ?_
                            refine bq_nameR (P := kr_S z 12 74) ⟨?_, ?_, ?_⟩ (fun R12 hR12 => ?_)
                            · rw [bq_sr_s, hR11.1]
                              exact kr_fs rfl
                            · intro x h1 h2
                              rcases (show x = 73 ∨ x < 73 by omega) with rfl | h
                              · rw [bq_sr_n (by decide), hR11.2.2 _ (by decide)]; rfl
                              · rw [bq_sr_n (by omega)]; exact hR11.2.1 x h1 h
                            · intro x hx; rw [bq_sr_n (by omega)]; exact hR11.2.2 x (by omega)
                            · skip
                              have hF12 : bq_Fr R12 _ (bq_sr (fun _ _ => 0) 72 (vp_updL (fun _ => 0) 1 1)) 74 := hR12.fr (fun x hx => hI25.2 x (by omega)) (fun x hx => bq_sr_n (by omega))
                              refine bq_aload_n (q := 153) G rfl dX8_init_152 rfl ?_
                              refine bq_new (q := 156) (ci := 2) G dX8_init_153 rfl (by decide) wl_X8_76 wa_X2 wi_X2 rfl hF12 (Nat.le_of_ble_eq_true rfl) (Nat.le_of_ble_eq_true rfl) ?_
                              refine bq_dup (q := 157) G rfl dX8_init_156 rfl ?_
                              refine bq_calliN (q := 160) G dX8_init_157 rfl ⟨rfl, Or.inr ⟨rfl, rfl⟩⟩ (c_X2_init) rfl ⟨Nat.le_of_ble_eq_true rfl, Nat.le_of_ble_eq_true rfl⟩ (Nat.le_of_ble_eq_true rfl) ⟨Nat.le_of_ble_eq_true rfl, Nat.le_of_ble_eq_true rfl⟩ rfl ?_
                              refine bq_putr (q := 163) G dX8_init_160 rfl fl_X8_79 (by first | assumption | exact ⟨Nat.le_of_ble_eq_true rfl, rfl⟩) (fun _ _ _ => rfl) rfl rfl ⟨rfl, rfl, rfl⟩ ?_
                              refine bq_nrm (cells' := 74) (slots' := 770) (n' := 75) rfl rfl rfl ?_
                              refine bq_nameR (P := kr_S z 13 75) ⟨?_, ?_, ?_⟩ (fun R13 hR13 => ?_)
                              · rw [bq_sr_s, hR12.1]
                                exact kr_fs rfl
                              · intro x h1 h2
                                rcases (show x = 74 ∨ x < 74 by omega) with rfl | h
                                · rw [bq_sr_n (by decide), hR12.2.2 _ (by decide)]; rfl
                                · rw [bq_sr_n (by omega), ]; exact hR12.2.1 x h1 h
                              · intro x hx; rw [bq_sr_n (by omega)]; exact hR12.2.2 x (by omega)
                              · skip
                                refine hret _ _ _ _ _ dX8_init_163 ⟨?_, hR13.2.2, hI25, rfl⟩
                                intro x hx
                                rcases Nat.eq_zero_or_pos x with rfl | h
                                · rw [hR13.1]
                                  funext j
                                  unfold kr_f
                                  by_cases h : j < 13
                                  · rw [if_pos h]
                                  · rw [if_neg h]
                                    obtain ⟨i, rfl⟩ : ∃ i, j = i + 13 := ⟨j - 13, by omega⟩
                                    rfl
                                · exact hR13.2.1 x h hx
def kr_c8 : Nat := 74
