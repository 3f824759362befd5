/-! the model's past: keeps, undo -/
def gs_sh (k : Nat) (f : Nat → Int32) : Nat → Int32 := fun j => if j < k then f (j + 59) else f j
theorem gs_sh_s {k : Nat} {f : Nat → Int32} : gs_sh (k + 1) f = upd (gs_sh k f) k (gs_sh k f (k + 59)) := by
  funext j
  have e0 : gs_sh k f (k + 59) = f (k + 59) := if_neg (by omega)
  rw [e0]
  unfold upd
  by_cases e : j = k
  · subst e; rw [if_pos rfl]; exact if_pos (by omega)
  · rw [if_neg e]
    show (if j < k + 1 then f (j + 59) else f j) = if j < k then f (j + 59) else f j
    by_cases h : j < k
    · rw [if_pos h, if_pos (by omega)]
    · rw [if_neg h, if_neg (by omega)]
/-- a copy at an offset -/
def gs_co (o k : Nat) (f g : Nat → Int32) : Nat → Int32 := fun j => if o ≤ j ∧ j < o + k then f (j - o) else g j
theorem gs_co_0 {o : Nat} {f g : Nat → Int32} : gs_co o 0 f g = g := by funext j; exact if_neg (by omega)
theorem gs_co_s {o k : Nat} {f g : Nat → Int32} : gs_co o (k + 1) f g = upd (gs_co o k f g) (o + k) (f k) := by
  funext j
  unfold upd
  by_cases e : j = o + k
  · subst e
    rw [if_pos rfl]
    show (if o ≤ o + k ∧ o + k < o + (k + 1) then f (o + k - o) else g (o + k)) = f k
    rw [if_pos (by omega), show o + k - o = k by omega]
  · rw [if_neg e]
    show (if o ≤ j ∧ j < o + (k + 1) then f (j - o) else g j) = if o ≤ j ∧ j < o + k then f (j - o) else g j
    by_cases h : o ≤ j ∧ j < o + k
    · rw [if_pos h, if_pos (by omega)]
    · rw [if_neg h, if_neg (by omega)]
theorem gs_co_in {o k j : Nat} {f g : Nat → Int32} (h : j < k) : gs_co o k f g (o + j) = f j := by
  show (if o ≤ o + j ∧ o + j < o + k then f (o + j - o) else g (o + j)) = f j
  rw [if_pos (by omega), show o + j - o = j by omega]
theorem gs_co_out {o k j : Nat} {f g : Nat → Int32} (h : j < o ∨ o + k ≤ j) : gs_co o k f g j = g j := if_neg (by omega)
/-- the past behind keeps, p being known -/
def gs_kp (p : Nat) (P S : Nat → Int32) : Nat → Int32 := if p = 8 then gs_co (59 * 7) 59 S (gs_sh 413 P) else gs_co (59 * p) 59 S P
def gs_kn (p : Nat) : Nat := if p = 8 then 8 else p + 1
set_option maxHeartbeats 1000000 in
set_option maxRecDepth 100000 in
theorem c_X9_keeps {z : Nat} {I : bq_IR} {L : bq_LR} {p : Nat} (hp : I 75 7 = nI p) (hp8 : p ≤ 8) : bq_FC MX9_keeps z [.ref (z + 75)] 85 (bq_Rf z) I L 0 0 none 85 (bq_Rf z) (bq_sr (bq_sr I 80 (gs_kp p (I 80) (I 79))) 75 (upd (I 75) 7 (nI (gs_kn p)))) (L) := by
  refine bq_ofV [some (.ref (z + 75)), none] rfl (Nat.le_of_ble_eq_true rfl) (by decide) rfl ?_
  intro A G hret
  have G : bq_Cx cX9_keeps RX9 2 z (bq_rm MX9_keeps 0 0) "keeps" A := G
  have n1 : (79 : Nat) ≠ 80 := by decide
  have n2 : (75 : Nat) ≠ 80 := by decide
  have cp : ∀ (q : Nat) (P : Nat → Int32) (J : bq_IR), q ≤ 7 → J 75 7 = nI q → J 79 = I 79 → (∀ K : bq_IR, K = bq_sr (bq_sr J 80 (gs_co (59 * q) 59 (I 79) (J 80))) 75 (upd (J 75) 7 (nI (q + 1))) → K = bq_sr (bq_sr I 80 (gs_kp p (I 80) (I 79))) 75 (upd (I 75) 7 (nI (gs_kn p)))) → ∀ k, k ≤ 59 → A 0 0 51 [some (.ref (z + 75)), some (.int (nI k))] [] 85 (bq_Rf z) (bq_sr J 80 (gs_co (59 * q) k (I 79) (J 80))) L := by
    intro q P J hq h7 h79 hfin
    refine bq_down 59 ?_
    intro k hk ih
    have e7 : ∀ f : Nat → Int32, bq_sr J 80 f 75 7 = nI q := fun f => by rw [bq_sr_n n2]; exact h7
    rcases Nat.lt_or_ge k 59 with hk8 | hk8
    · refine bq_iload_n (q := 52) G rfl dX9_keeps_51 rfl ?_
      refine bq_bipush (q := 54) (v := 59) G (by decide) dX9_keeps_52 rfl ?_
      refine bq_icmp_ge_f (q := 57) (t := 83) G dX9_keeps_54 rfl (by decide) (nI_ge (a := k) (b := 59) hk8 (by decide)) ?_
      refine bq_aload_n (q := 58) G rfl dX9_keeps_57 rfl ?_
      refine bq_getr (q := 61) G dX9_keeps_58 rfl fl_X9_22 (by first | assumption | exact ⟨Nat.le_of_ble_eq_true rfl, rfl⟩) (fun _ _ _ => rfl) (rf_75_6 z) ?_
      refine bq_bipush (q := 63) (v := 59) G (by decide) dX9_keeps_61 rfl ?_
      refine bq_aload_n (q := 64) G rfl dX9_keeps_63 rfl ?_
      refine bq_geti (q := 67) G dX9_keeps_64 rfl fl_X9_95 (by first | assumption | exact ⟨Nat.le_of_ble_eq_true rfl, rfl⟩) rfl ?_
      refine bq_imul (q := 68) G dX9_keeps_67 rfl ?_
      refine bq_iload_n (q := 69) G rfl dX9_keeps_68 rfl ?_
      refine bq_iadd (q := 70) G dX9_keeps_69 rfl ?_
      refine bq_aload_n (q := 71) G rfl dX9_keeps_70 rfl ?_
      refine bq_getr (q := 74) G dX9_keeps_71 rfl fl_X9_19 (by first | assumption | exact ⟨Nat.le_of_ble_eq_true rfl, rfl⟩) (fun _ _ _ => rfl) (rf_75_5 z) ?_
      refine bq_iload_n (q := 75) G rfl dX9_keeps_74 rfl ?_
      refine bq_iald (q := 76) G dX9_keeps_75 rfl (by first | assumption | exact ⟨Nat.le_of_ble_eq_true rfl, rfl⟩) (by first | with_reducible assumption | with_reducible exact rfl | exact bq_ixa rfl (by with_reducible assumption) | exact rfl | exact bq_ixa rfl rfl | exact bq_ixa (by with_reducible assumption) rfl | exact bq_ixa rfl (bq_ixa (by first | rfl | with_reducible assumption) (by first | rfl | with_reducible assumption))) (by first | with_reducible assumption | omega | decide) (by decide) ?_
      refine bq_iast (q := 77) (b := 59 * q + k) G dX9_keeps_76 rfl (by first | assumption | exact ⟨Nat.le_of_ble_eq_true rfl, rfl⟩) (bq_ixa (bq_ixm (a := 59) rfl (e7 _)) rfl) (by first | with_reducible assumption | omega | decide) (by decide) ?_
      refine bq_iinc (q := 80) (ls' := [_, _]) G dX9_keeps_77 rfl rfl (by first | exact nI_1 _ | exact pk_m1 _ | rfl) (by decide) rfl rfl ?_
      refine bq_goto (q := 51) G dX9_keeps_80 (by decide) ?_
      refine bq_I ?_ (ih hk8)
      rw [gs_co_s, bq_sr_sr, bq_sr_s, bq_sr_n n1, h79]
    · have hk9 : k = 59 := by omega
      subst hk9
      refine bq_iload_n (q := 52) G rfl dX9_keeps_51 rfl ?_
      refine bq_bipush (q := 54) (v := 59) G (by decide) dX9_keeps_52 rfl ?_
      refine bq_icmp_ge_t (t := 83) G dX9_keeps_54 (by decide) (nI_le (a := 59) (b := 59) (by omega) (by decide)) ?_
      refine bq_aload_n (q := 84) G rfl dX9_keeps_83 rfl ?_
      refine bq_dup (q := 85) G rfl dX9_keeps_84 rfl ?_
      refine bq_geti (q := 88) G dX9_keeps_85 rfl fl_X9_95 (by first | assumption | exact ⟨Nat.le_of_ble_eq_true rfl, rfl⟩) rfl ?_
      refine bq_iconst (q := 89) (v := 1) G (by decide) dX9_keeps_88 rfl ?_
      refine bq_iadd (q := 90) G dX9_keeps_89 rfl ?_
      refine bq_puti (q := 93) G dX9_keeps_90 rfl fl_X9_95 (by first | assumption | exact ⟨Nat.le_of_ble_eq_true rfl, rfl⟩) rfl rfl ?_
      refine bq_rv (hret _ _ dX9_keeps_93) rfl ?_ rfl
      refine hfin _ ?_
      rw [bq_sr_n n2, h7, nI_1]
  refine bq_aload_n (q := 1) G rfl dX9_keeps_0 rfl ?_
  refine bq_geti (q := 4) G dX9_keeps_1 rfl fl_X9_95 (by first | assumption | exact ⟨Nat.le_of_ble_eq_true rfl, rfl⟩) rfl ?_
  refine bq_bipush (q := 6) (v := 8) G (by decide) dX9_keeps_4 rfl ?_
  refine bq_icmp_ne (t := 49) (q := 9) G dX9_keeps_6 (by decide) rfl (fun c6 => ?_) (fun c6 => ?_)
  · have hp8 : ¬ p = 8 := fun e => c6 (by rw [hp, e]; rfl)
    refine bq_iconst (q := 50) (v := 0) G (by decide) dX9_keeps_49 rfl ?_
    refine bq_istore_n (q := 51) (ls' := [_, _]) G dX9_keeps_50 rfl (by decide) rfl rfl ?_
    refine bq_I ?_ (cp p (I 80) I (by omega) hp rfl (fun K hK => ?_) 0 (by omega))
    · rw [gs_co_0, bq_sr_id]
    · rw [hK]
      unfold gs_kp gs_kn
      rw [if_neg hp8, if_neg hp8]
  · have hp8 : p = 8 := by
      rw [hp] at c6
      exact (nI_eq (a := p) (b := 8) (by omega) (by decide)).mp c6
    have loop : ∀ k, k ≤ 413 → A 0 0 11 [some (.ref (z + 75)), some (.int (nI k))] [] 85 (bq_Rf z) (bq_sr I 80 (gs_sh k (I 80))) L := by
      refine bq_down 413 ?_
      intro k hk ih
      rcases Nat.lt_or_ge k 413 with hk8 | hk8
      · refine bq_iload_n (q := 12) G rfl dX9_keeps_11 rfl ?_
        refine bq_sipush (q := 15) (v := 413) G (by decide) dX9_keeps_12 rfl ?_
        refine bq_icmp_ge_f (q := 18) (t := 39) G dX9_keeps_15 rfl (by decide) (nI_ge (a := k) (b := 413) hk8 (by decide)) ?_
        refine bq_aload_n (q := 19) G rfl dX9_keeps_18 rfl ?_
        refine bq_getr (q := 22) G dX9_keeps_19 rfl fl_X9_22 (by first | assumption | exact ⟨Nat.le_of_ble_eq_true rfl, rfl⟩) (fun _ _ _ => rfl) (rf_75_6 z) ?_
        refine bq_iload_n (q := 23) G rfl dX9_keeps_22 rfl ?_
        refine bq_aload_n (q := 24) G rfl dX9_keeps_23 rfl ?_
        refine bq_getr (q := 27) G dX9_keeps_24 rfl fl_X9_22 (by first | assumption | exact ⟨Nat.le_of_ble_eq_true rfl, rfl⟩) (fun _ _ _ => rfl) (rf_75_6 z) ?_
        refine bq_iload_n (q := 28) G rfl dX9_keeps_27 rfl ?_
        refine bq_bipush (q := 30) (v := 59) G (by decide) dX9_keeps_28 rfl ?_
        refine bq_iadd (q := 31) G dX9_keeps_30 rfl ?_
        refine bq_iald (q := 32) (b := k + 59) G dX9_keeps_31 rfl (by first | assumption | exact ⟨Nat.le_of_ble_eq_true rfl, rfl⟩) (bq_ixa (b := 59) (by first | with_reducible assumption | with_reducible exact rfl | exact rfl) rfl) (by first | with_reducible assumption | omega | decide) (by decide) ?_
        refine bq_iast (q := 33) G dX9_keeps_32 rfl (by first | assumption | exact ⟨Nat.le_of_ble_eq_true rfl, rfl⟩) (by first | with_reducible assumption | with_reducible exact rfl | exact bq_ixa rfl (by with_reducible assumption) | exact rfl | exact bq_ixa rfl rfl | exact bq_ixa (by with_reducible assumption) rfl | exact bq_ixa rfl (bq_ixa (by first | rfl | with_reducible assumption) (by first | rfl | with_reducible assumption))) (by first | with_reducible assumption | omega | decide) (by decide) ?_
        refine bq_iinc (q := 36) (ls' := [_, _]) G dX9_keeps_33 rfl rfl (by first | exact nI_1 _ | exact pk_m1 _ | rfl) (by decide) rfl rfl ?_
        refine bq_goto (q := 11) G dX9_keeps_36 (by decide) ?_
        refine bq_I ?_ (ih hk8)
        rw [gs_sh_s, bq_sr_sr, bq_sr_s]
      · have hk9 : k = 413 := by omega
        subst hk9
        have e8 : bq_sr I 80 (gs_sh 413 (I 80)) 75 7 = nI 8 := by rw [bq_sr_n n2, hp, hp8]
        refine bq_iload_n (q := 12) G rfl dX9_keeps_11 rfl ?_
        refine bq_sipush (q := 15) (v := 413) G (by decide) dX9_keeps_12 rfl ?_
        refine bq_icmp_ge_t (t := 39) G dX9_keeps_15 (by decide) (nI_le (a := 413) (b := 413) (by omega) (by decide)) ?_
        refine bq_aload_n (q := 40) G rfl dX9_keeps_39 rfl ?_
        refine bq_dup (q := 41) G rfl dX9_keeps_40 rfl ?_
        refine bq_geti (q := 44) G dX9_keeps_41 rfl fl_X9_95 (by first | assumption | exact ⟨Nat.le_of_ble_eq_true rfl, rfl⟩) rfl ?_
        refine bq_iconst (q := 45) (v := 1) G (by decide) dX9_keeps_44 rfl ?_
        refine bq_isub (q := 46) G dX9_keeps_45 rfl ?_
        refine bq_puti (q := 49) G dX9_keeps_46 rfl fl_X9_95 (by first | assumption | exact ⟨Nat.le_of_ble_eq_true rfl, rfl⟩) rfl rfl ?_
        refine bq_iconst (q := 50) (v := 0) G (by decide) dX9_keeps_49 rfl ?_
        refine bq_istore_n (q := 51) (ls' := [_, _]) G dX9_keeps_50 rfl (by decide) rfl rfl ?_
        rw [e8, show nI 8 - 1 = nI 7 from nI_pred 7]
        refine bq_forget G ?_ (bq_I ?_ (cp 7 (I 80) (bq_sr (bq_sr I 80 (gs_sh 413 (I 80))) 75 (upd (bq_sr I 80 (gs_sh 413 (I 80)) 75) 7 (nI 7))) (by omega) (by rw [bq_sr_s, pk_us]) (by rw [bq_sr_n (by decide), bq_sr_n (by decide)]) (fun K hK => ?_) 0 (by omega)))
        · repeat (first | exact bq_le_0 _ | refine bq_le_n ?_ | refine bq_le_s rfl ?_)
        · rw [gs_co_0, bq_sr_id]
        · rw [hK]
          unfold gs_kp gs_kn
          rw [if_pos hp8, if_pos hp8]
          have a1 : bq_sr (bq_sr I 80 (gs_sh 413 (I 80))) 75 (upd (bq_sr I 80 (gs_sh 413 (I 80)) 75) 7 (nI 7)) 80 = gs_sh 413 (I 80) := by rw [bq_sr_n (by decide), bq_sr_s]
          rw [a1, bq_sr_c (show (75 : Nat) ≠ 80 by decide), bq_sr_sr, bq_sr_sr, bq_sr_n (show (75 : Nat) ≠ 80 by decide), bq_sr_s, gs_uu]
    refine bq_iconst (q := 10) (v := 0) G (by decide) dX9_keeps_9 rfl ?_
    refine bq_istore_n (q := 11) (ls' := [_, _]) G dX9_keeps_10 rfl (by decide) rfl rfl ?_
    refine bq_I ?_ (loop 0 (by omega))
    have : gs_sh 0 (I 80) = I 80 := by funext j; exact if_neg (by omega)
    rw [this, bq_sr_id]
/-- behind keeps: what the model's cells are -/
def gs_KP (I : bq_IR) (p : Nat) : bq_IR := bq_sr (bq_sr I 80 (gs_kp p (I 80) (I 79))) 75 (upd (I 75) 7 (nI (gs_kn p)))
theorem gs_KP79 (I : bq_IR) (p : Nat) : gs_KP I p 79 = I 79 := by unfold gs_KP; rw [bq_sr_n (by decide), bq_sr_n (by decide)]
theorem gs_KP77 (I : bq_IR) (p : Nat) : gs_KP I p 77 = I 77 := by unfold gs_KP; rw [bq_sr_n (by decide), bq_sr_n (by decide)]
theorem c_keeps {z : Nat} {I : bq_IR} {L : bq_LR} {p : Nat} (hp : I 75 7 = nI p) (hp8 : p ≤ 8) : bq_FC MX9_keeps z [.ref (z + 75)] 85 (bq_Rf z) I L 0 0 none 85 (bq_Rf z) (gs_KP I p) L := c_X9_keeps hp hp8
set_option maxHeartbeats 1000000 in
set_option maxRecDepth 100000 in
theorem c_X9_splitsNow {z : Nat} {I : bq_IR} {L : bq_LR} {k : Nat} (hk : k < 8) (hcan : ¬ I 79 (3 + k) = 1 → ¬ gs_fk (I 79) 8 0 = -9) : bq_FC MX9_splitsNow z [.ref (z + 75), .int (nI k)] 85 (bq_Rf z) I L 0 0 (some (.int (gs_spr k (I 79)))) 85 (bq_Rf z) (bq_sr I 79 (gs_sp k (I 79))) (L) := by
  refine bq_ofI [some (.ref (z + 75)), some (.int (nI k)), none, none] rfl (Nat.le_of_ble_eq_true rfl) (by decide) rfl rfl ?_
  intro A G hret
  have G : bq_Cx cX9_splitsNow RX9 4 z (bq_rm MX9_splitsNow 0 0) "splitsNow" A := G
  refine bq_aload_n (q := 1) G rfl dX9_splitsNow_0 rfl ?_
  refine bq_callv (q := 4) G dX9_splitsNow_1 rfl cl_X9_126 (c_X9_free) rfl (by first | assumption | exact ⟨Nat.le_of_ble_eq_true rfl, rfl⟩) rfl ⟨Nat.le_of_ble_eq_true rfl, Nat.le_of_ble_eq_true rfl⟩ (Nat.le_of_ble_eq_true rfl) ⟨Nat.le_of_ble_eq_true rfl, Nat.le_of_ble_eq_true rfl⟩ rfl ?_
  refine bq_istore_n (q := 5) (ls' := [_, _, _, _]) G dX9_splitsNow_4 rfl (by decide) rfl rfl ?_
  refine bq_aload_n (q := 6) G rfl dX9_splitsNow_5 rfl ?_
  refine bq_getr (q := 9) G dX9_splitsNow_6 rfl fl_X9_19 (by first | assumption | exact ⟨Nat.le_of_ble_eq_true rfl, rfl⟩) (fun _ _ _ => rfl) (rf_75_5 z) ?_
  refine bq_iconst (q := 10) (v := 3) G (by decide) dX9_splitsNow_9 rfl ?_
  refine bq_iload_n (q := 11) G rfl dX9_splitsNow_10 rfl ?_
  refine bq_iadd (q := 12) G dX9_splitsNow_11 rfl ?_
  refine bq_iald (q := 13) G dX9_splitsNow_12 rfl (by first | assumption | exact ⟨Nat.le_of_ble_eq_true rfl, rfl⟩) (bq_ixa (a := 3) rfl (by first | with_reducible assumption | with_reducible exact rfl | exact rfl)) (by first | with_reducible assumption | omega | decide) (by decide) ?_
  refine bq_iconst (q := 14) (v := 1) G (by decide) dX9_splitsNow_13 rfl ?_
  refine bq_icmp_ne (t := 30) (q := 17) G dX9_splitsNow_14 (by decide) rfl (fun c14 => ?_) (fun c14 => ?_)
  · have ho : ∃ o, o < 8 ∧ gs_fk (I 79) 8 0 = nI o ∧ I 79 (51 + o) = 0 := by
      rcases gs_fk_or (I 79) 8 0 with h | ⟨o, -, h2, h3, h4⟩
      · exact absurd h (hcan c14)
      · exact ⟨o, by omega, h3, h4⟩
    obtain ⟨o, ho8, hfo, ho0⟩ := ho
    have hoS : gs_o (I 79) = o := by unfold gs_o; rw [hfo]; exact nI_clamp (by omega)
    have hr : gs_spr k (I 79) = nI o := by unfold gs_spr; rw [if_neg c14, hfo]
    have hI : gs_sp k (I 79) = gs_c7 o k 7 (gs_s1 k (I 79)) := by unfold gs_sp; rw [if_neg c14, hoS]
    rw [hr, hI] at hret
    rw [hfo]
    have loop : ∀ q, q ≤ 7 → A 0 0 85 [some (.ref (z + 75)), some (.int (nI k)), some (.int (nI o)), some (.int (nI q))] [] 85 (bq_Rf z) (bq_sr I 79 (gs_c7 o k q (gs_s1 k (I 79)))) L := by
      refine bq_down 7 ?_
      intro q hq ih
      rcases Nat.lt_or_ge q 7 with hq8 | hq8
      · refine bq_iload_n (q := 86) G rfl dX9_splitsNow_85 rfl ?_
        refine bq_bipush (q := 88) (v := 7) G (by decide) dX9_splitsNow_86 rfl ?_
        refine bq_icmp_ge_f (q := 91) (t := 123) G dX9_splitsNow_88 rfl (by decide) (nI_ge (a := q) (b := 7) hq8 (by decide)) ?_
        refine bq_aload_n (q := 92) G rfl dX9_splitsNow_91 rfl ?_
        refine bq_getr (q := 95) G dX9_splitsNow_92 rfl fl_X9_19 (by first | assumption | exact ⟨Nat.le_of_ble_eq_true rfl, rfl⟩) (fun _ _ _ => rfl) (rf_75_5 z) ?_
        refine bq_iconst (q := 96) (v := 3) G (by decide) dX9_splitsNow_95 rfl ?_
        refine bq_bipush (q := 98) (v := 8) G (by decide) dX9_splitsNow_96 rfl ?_
        refine bq_iload_n (q := 99) G rfl dX9_splitsNow_98 rfl ?_
        refine bq_imul (q := 100) G dX9_splitsNow_99 rfl ?_
        refine bq_iadd (q := 101) G dX9_splitsNow_100 rfl ?_
        refine bq_iload_n (q := 102) G rfl dX9_splitsNow_101 rfl ?_
        refine bq_iadd (q := 103) G dX9_splitsNow_102 rfl ?_
        refine bq_aload_n (q := 104) G rfl dX9_splitsNow_103 rfl ?_
        refine bq_getr (q := 107) G dX9_splitsNow_104 rfl fl_X9_19 (by first | assumption | exact ⟨Nat.le_of_ble_eq_true rfl, rfl⟩) (fun _ _ _ => rfl) (rf_75_5 z) ?_
        refine bq_iconst (q := 108) (v := 3) G (by decide) dX9_splitsNow_107 rfl ?_
        refine bq_bipush (q := 110) (v := 8) G (by decide) dX9_splitsNow_108 rfl ?_
        refine bq_iload_n (q := 111) G rfl dX9_splitsNow_110 rfl ?_
        refine bq_imul (q := 112) G dX9_splitsNow_111 rfl ?_
        refine bq_iadd (q := 113) G dX9_splitsNow_112 rfl ?_
        refine bq_iload_n (q := 114) G rfl dX9_splitsNow_113 rfl ?_
        refine bq_iadd (q := 115) G dX9_splitsNow_114 rfl ?_
        refine bq_iald (q := 116) (b := 3 + 8 * q + k) G dX9_splitsNow_115 rfl (by first | assumption | exact ⟨Nat.le_of_ble_eq_true rfl, rfl⟩) (bq_ixa (bq_ixa (a := 3) rfl (bq_ixm (a := 8) rfl rfl)) rfl) (by first | with_reducible assumption | omega | decide) (by decide) ?_
        refine bq_iast (q := 117) (b := 3 + 8 * q + o) G dX9_splitsNow_116 rfl (by first | assumption | exact ⟨Nat.le_of_ble_eq_true rfl, rfl⟩) (bq_ixa (bq_ixa (a := 3) rfl (bq_ixm (a := 8) rfl rfl)) rfl) (by first | with_reducible assumption | omega | decide) (by decide) ?_
        refine bq_iinc (q := 120) (ls' := [_, _, _, _]) G dX9_splitsNow_117 rfl rfl (by first | exact nI_1 _ | exact pk_m1 _ | rfl) (by decide) rfl rfl ?_
        refine bq_goto (q := 85) G dX9_splitsNow_120 (by decide) ?_
        refine bq_I ?_ (ih hq8)
        rw [bq_sr_sr, bq_sr_s]
        rfl
      · have hq9 : q = 7 := by omega
        subst hq9
        refine bq_iload_n (q := 86) G rfl dX9_splitsNow_85 rfl ?_
        refine bq_bipush (q := 88) (v := 7) G (by decide) dX9_splitsNow_86 rfl ?_
        refine bq_icmp_ge_t (t := 123) G dX9_splitsNow_88 (by decide) (nI_le (a := 7) (b := 7) (by omega) (by decide)) ?_
        refine bq_iload_n (q := 124) G rfl dX9_splitsNow_123 rfl ?_
        exact hret _ _ dX9_splitsNow_124
    have st : ∀ v : Int32, v = (if 40 < 2 * I 79 (11 + k) then 40 else 2 * I 79 (11 + k)) → A 0 0 82 [some (.ref (z + 75)), some (.int (nI k)), some (.int (nI o)), none] [.int v, .int (11 + nI k), .ref (z + 79)] 85 (bq_Rf z) (bq_sr I 79 (upd (I 79) (3 + k) (I 79 (3 + k) / 2))) L := by
      intro v hv
      refine bq_iast (q := 83) (b := 11 + k) G dX9_splitsNow_82 rfl (by first | assumption | exact ⟨Nat.le_of_ble_eq_true rfl, rfl⟩) (bq_ixa (a := 11) rfl rfl) (by first | with_reducible assumption | omega | decide) (by decide) ?_
      refine bq_iconst (q := 84) (v := 0) G (by decide) dX9_splitsNow_83 rfl ?_
      refine bq_istore_n (q := 85) (ls' := [_, _, _, _]) G dX9_splitsNow_84 rfl (by decide) rfl rfl ?_
      refine bq_I ?_ (loop 0 (by omega))
      rw [bq_sr_sr, bq_sr_s, hv]
      rfl
    refine bq_aload_n (q := 31) G rfl dX9_splitsNow_30 rfl ?_
    refine bq_getr (q := 34) G dX9_splitsNow_31 rfl fl_X9_19 (by first | assumption | exact ⟨Nat.le_of_ble_eq_true rfl, rfl⟩) (fun _ _ _ => rfl) (rf_75_5 z) ?_
    refine bq_iconst (q := 35) (v := 3) G (by decide) dX9_splitsNow_34 rfl ?_
    refine bq_iload_n (q := 36) G rfl dX9_splitsNow_35 rfl ?_
    refine bq_iadd (q := 37) G dX9_splitsNow_36 rfl ?_
    refine bq_dup2 (q := 38) G rfl rfl dX9_splitsNow_37 rfl ?_
    refine bq_iald (q := 39) G dX9_splitsNow_38 rfl (by first | assumption | exact ⟨Nat.le_of_ble_eq_true rfl, rfl⟩) (bq_ixa (a := 3) rfl (by first | with_reducible assumption | with_reducible exact rfl | exact rfl)) (by first | with_reducible assumption | omega | decide) (by decide) ?_
    refine bq_iconst (q := 40) (v := 2) G (by decide) dX9_splitsNow_39 rfl ?_
    refine bq_idiv (q := 41) G (by decide) dX9_splitsNow_40 rfl ?_
    refine bq_iast (q := 42) G dX9_splitsNow_41 rfl (by first | assumption | exact ⟨Nat.le_of_ble_eq_true rfl, rfl⟩) (bq_ixa (a := 3) rfl (by first | with_reducible assumption | with_reducible exact rfl | exact rfl)) (by first | with_reducible assumption | omega | decide) (by decide) ?_
    refine bq_aload_n (q := 43) G rfl dX9_splitsNow_42 rfl ?_
    refine bq_getr (q := 46) G dX9_splitsNow_43 rfl fl_X9_19 (by first | assumption | exact ⟨Nat.le_of_ble_eq_true rfl, rfl⟩) (fun _ _ _ => rfl) (rf_75_5 z) ?_
    refine bq_bipush (q := 48) (v := 11) G (by decide) dX9_splitsNow_46 rfl ?_
    refine bq_iload_n (q := 49) G rfl dX9_splitsNow_48 rfl ?_
    refine bq_iadd (q := 50) G dX9_splitsNow_49 rfl ?_
    refine bq_iconst (q := 51) (v := 2) G (by decide) dX9_splitsNow_50 rfl ?_
    refine bq_aload_n (q := 52) G rfl dX9_splitsNow_51 rfl ?_
    refine bq_getr (q := 55) G dX9_splitsNow_52 rfl fl_X9_19 (by first | assumption | exact ⟨Nat.le_of_ble_eq_true rfl, rfl⟩) (fun _ _ _ => rfl) (rf_75_5 z) ?_
    refine bq_bipush (q := 57) (v := 11) G (by decide) dX9_splitsNow_55 rfl ?_
    refine bq_iload_n (q := 58) G rfl dX9_splitsNow_57 rfl ?_
    refine bq_iadd (q := 59) G dX9_splitsNow_58 rfl ?_
    refine bq_iald (q := 60) G dX9_splitsNow_59 rfl (by first | assumption | exact ⟨Nat.le_of_ble_eq_true rfl, rfl⟩) (bq_ixa (a := 11) rfl (by first | with_reducible assumption | with_reducible exact rfl | exact rfl)) (by first | with_reducible assumption | omega | decide) (by decide) ?_
    refine bq_imul (q := 61) G dX9_splitsNow_60 rfl ?_
    refine bq_bipush (q := 63) (v := 40) G (by decide) dX9_splitsNow_61 rfl ?_
    refine bq_icmp_le (t := 71) (q := 66) G dX9_splitsNow_63 (by decide) rfl (fun c63 => ?_) (fun c63 => ?_)
    · rw [bq_sr_s, pk_un (by omega)] at c63
      refine bq_iconst (q := 72) (v := 2) G (by decide) dX9_splitsNow_71 rfl ?_
      refine bq_aload_n (q := 73) G rfl dX9_splitsNow_72 rfl ?_
      refine bq_getr (q := 76) G dX9_splitsNow_73 rfl fl_X9_19 (by first | assumption | exact ⟨Nat.le_of_ble_eq_true rfl, rfl⟩) (fun _ _ _ => rfl) (rf_75_5 z) ?_
      refine bq_bipush (q := 78) (v := 11) G (by decide) dX9_splitsNow_76 rfl ?_
      refine bq_iload_n (q := 79) G rfl dX9_splitsNow_78 rfl ?_
      refine bq_iadd (q := 80) G dX9_splitsNow_79 rfl ?_
      refine bq_iald (q := 81) G dX9_splitsNow_80 rfl (by first | assumption | exact ⟨Nat.le_of_ble_eq_true rfl, rfl⟩) (bq_ixa (a := 11) rfl (by first | with_reducible assumption | with_reducible exact rfl | exact rfl)) (by first | with_reducible assumption | omega | decide) (by decide) ?_
      refine bq_imul (q := 82) G dX9_splitsNow_81 rfl ?_
      exact st _ (by rw [bq_sr_s, pk_un (by omega), if_neg (Int32.not_lt.mpr c63)])
    · rw [bq_sr_s, pk_un (by omega)] at c63
      refine bq_bipush (q := 68) (v := 40) G (by decide) dX9_splitsNow_66 rfl ?_
      refine bq_goto (q := 82) G dX9_splitsNow_68 (by decide) ?_
      exact st _ (by rw [if_pos (Int32.not_le.mp c63)])
  · have hr : gs_spr k (I 79) = -9 := by unfold gs_spr; rw [if_pos c14]
    have hI : gs_sp k (I 79) = upd (I 79) (51 + k) 0 := by unfold gs_sp; rw [if_pos c14]
    rw [hr, hI] at hret
    refine bq_aload_n (q := 18) G rfl dX9_splitsNow_17 rfl ?_
    refine bq_getr (q := 21) G dX9_splitsNow_18 rfl fl_X9_19 (by first | assumption | exact ⟨Nat.le_of_ble_eq_true rfl, rfl⟩) (fun _ _ _ => rfl) (rf_75_5 z) ?_
    refine bq_bipush (q := 23) (v := 51) G (by decide) dX9_splitsNow_21 rfl ?_
    refine bq_iload_n (q := 24) G rfl dX9_splitsNow_23 rfl ?_
    refine bq_iadd (q := 25) G dX9_splitsNow_24 rfl ?_
    refine bq_iconst (q := 26) (v := 0) G (by decide) dX9_splitsNow_25 rfl ?_
    refine bq_iast (q := 27) G dX9_splitsNow_26 rfl (by first | assumption | exact ⟨Nat.le_of_ble_eq_true rfl, rfl⟩) (bq_ixa (a := 51) rfl (by first | with_reducible assumption | with_reducible exact rfl | exact rfl)) (by first | with_reducible assumption | omega | decide) (by decide) ?_
    refine bq_bipush (q := 29) (v := -9) G (by decide) dX9_splitsNow_27 rfl ?_
    exact hret _ _ dX9_splitsNow_29
