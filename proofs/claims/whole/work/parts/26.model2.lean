def gs_th (S : Nat → Int32) (b : Int32) : Prop := (0 ≤ b ∧ b ≤ 7) ∧ S (51 + b.toNatClampNeg) = 1
theorem gs_thk {S : Nat → Int32} {k : Nat} (hk : k < 8) : gs_th S (nI k) ↔ S (51 + k) = 1 := by
  unfold gs_th
  rw [nI_clamp (by omega)]
  exact ⟨fun h => h.2, fun h => ⟨⟨nI_pos' (by omega), nI_le (b := 7) (by omega) (by decide)⟩, h⟩⟩
theorem gs_ik {b : Int32} (h : 0 ≤ b ∧ b ≤ 7) : ∃ k : Nat, k < 8 ∧ b = nI k := by
  obtain ⟨j, hj, e⟩ := nI_of2 (M := 7) (n := 7) (by decide) (Int32.not_lt.mpr h.1) h.2
  exact ⟨j, by omega, e⟩
theorem gs_th_ex {S : Nat → Int32} {b : Int32} (h : gs_th S b) : ∃ k : Nat, k < 8 ∧ b = nI k ∧ S (51 + k) = 1 := by
  obtain ⟨k, hk, e⟩ := gs_ik h.1
  subst e
  exact ⟨k, hk, rfl, (gs_thk hk).mp h⟩
def gs_orb (S : Nat → Int32) : Nat → Int32
  | 0 => 0
  | k + 1 => gs_orb S k ||| (S (51 + k) <<< (nI k &&& 31))
def gs_orx (x : Nat) : Nat → Int32
  | 0 => 0
  | k + 1 => gs_orx x k ||| (nI (x / 2 ^ k % 2) <<< (nI k &&& 31))
theorem gs_orx8 : ∀ x, x < 256 → gs_orx x 8 = nI x := by decide +kernel
theorem gs_orbx {S : Nat → Int32} {x : Nat} (h : ∀ j, j < 8 → S (51 + j) = nI (x / 2 ^ j % 2)) : ∀ k, k ≤ 8 → gs_orb S k = gs_orx x k
  | 0, _ => rfl
  | k + 1, hk => by unfold gs_orb gs_orx; rw [gs_orbx h k (by omega), h k (by omega)]
theorem gs_F.orb {S : Nat → Int32} {w : Int32} (h : gs_F S 51 w) : gs_orb S 8 = w := by
  obtain ⟨x, hx, rfl, hS⟩ := h
  rw [gs_orbx hS 8 (Nat.le_refl 8)]
  exact gs_orx8 x hx
def gs_on (v : Int32) : Nat → Int32
  | 0 => 0
  | k + 1 => gs_on v k + (v >>> (nI k &&& 31) &&& 1)
def gs_cp (k : Nat) (f g : Nat → Int32) : Nat → Int32 := fun j => if j < k then f j else g j
theorem gs_cp_s {k : Nat} {f g : Nat → Int32} : gs_cp (k + 1) f g = upd (gs_cp k f g) k (f k) := by
  funext j
  unfold gs_cp upd
  by_cases e : j = k
  · subst e; rw [if_pos (by omega), if_pos rfl]
  · rw [if_neg e]
    show (if j < k + 1 then f j else g j) = if j < k then f j else g j
    by_cases h : j < k
    · rw [if_pos h, if_pos (by omega)]
    · rw [if_neg h, if_neg (by omega)]
theorem gs_fk_s (S : Nat → Int32) (d k : Nat) : gs_fk S (d + 1) k = if S (51 + k) = 0 then nI k else gs_fk S d (k + 1) := rfl
theorem gs_cp_0 {f g : Nat → Int32} : gs_cp 0 f g = g := by funext j; unfold gs_cp; rw [if_neg (by omega)]
theorem gs_cp_lt {k j : Nat} {f g : Nat → Int32} (h : j < k) : gs_cp k f g j = f j := if_pos h
theorem gs_cp_ge {k j : Nat} {f g : Nat → Int32} (h : k ≤ j) : gs_cp k f g j = g j := if_neg (by omega)
set_option maxHeartbeats 1000000 in
set_option maxRecDepth 100000 in
theorem c_X9_isThere {z : Nat} {I : bq_IR} {L : bq_LR} {b : Int32}  : bq_FC MX9_isThere z [.ref (z + 75), .int b] 85 (bq_Rf z) I L 0 0 (some (.int (if (0 ≤ b ∧ b ≤ 7) ∧ I 79 (51 + b.toNatClampNeg) = 1 then 1 else 0))) 85 (bq_Rf z) (I) (L) := by
  refine bq_ofI [some (.ref (z + 75)), some (.int b)] rfl (Nat.le_of_ble_eq_true rfl) (by decide) rfl (by first | rfl | exact bq_nb _ | (split <;> rfl)) ?_
  intro A G hret
  have G : bq_Cx cX9_isThere RX9 2 z (bq_rm MX9_isThere 0 0) "isThere" A := G
  refine bq_iload_n (q := 1) G rfl dX9_isThere_0 rfl ?_
  refine bq_calls (q := 4) G dX9_isThere_1 rfl cl_X9_49 (c_X9_isNumber) rfl rfl ⟨Nat.le_of_ble_eq_true rfl, Nat.le_of_ble_eq_true rfl⟩ (Nat.le_of_ble_eq_true rfl) ⟨Nat.le_of_ble_eq_true rfl, Nat.le_of_ble_eq_true rfl⟩ rfl ?_
  first | refine bq_ifb_eq (t := 24) (q := 7) G dX9_isThere_4 (by decide) rfl (fun c4 => ?_) (fun c4 => ?_) | refine bq_if_eq (t := 24) (q := 7) G dX9_isThere_4 (by decide) rfl (fun c4 => ?_) (fun c4 => ?_)
  · refine bq_iconst (q := 25) (v := 0) G (by decide) dX9_isThere_24 rfl ?_
    exact bq_ri (hret _ _ dX9_isThere_25) (by rw [if_neg (fun h => c4 h.1)]) rfl rfl
  · obtain ⟨k, hk, e⟩ := gs_ik c4
    have hcl : b.toNatClampNeg = k := by rw [e]; exact nI_clamp (by omega)
    rw [hcl] at hret
    refine bq_aload_n (q := 8) G rfl dX9_isThere_7 rfl ?_
    refine bq_getr (q := 11) G dX9_isThere_8 rfl fl_X9_19 (by first | assumption | exact ⟨Nat.le_of_ble_eq_true rfl, rfl⟩) (fun _ _ _ => rfl) (rf_75_5 z) ?_
    refine bq_bipush (q := 13) (v := 51) G (by decide) dX9_isThere_11 rfl ?_
    refine bq_iload_n (q := 14) G rfl dX9_isThere_13 rfl ?_
    refine bq_iadd (q := 15) G dX9_isThere_14 rfl ?_
    refine bq_iald (q := 16) G dX9_isThere_15 rfl (by first | assumption | exact ⟨Nat.le_of_ble_eq_true rfl, rfl⟩) (bq_ixa (a := 51) rfl (by first | with_reducible assumption | with_reducible exact rfl | exact rfl)) (by first | with_reducible assumption | omega | decide) (by decide) ?_
    refine bq_iconst (q := 17) (v := 1) G (by decide) dX9_isThere_16 rfl ?_
    refine bq_icmp_ne (t := 24) (q := 20) G dX9_isThere_17 (by decide) rfl (fun c17 => ?_) (fun c17 => ?_)
    · refine bq_iconst (q := 25) (v := 0) G (by decide) dX9_isThere_24 rfl ?_
      exact bq_ri (hret _ _ dX9_isThere_25) (by rw [if_neg (fun h => c17 h.2)]) rfl rfl
    · refine bq_iconst (q := 21) (v := 1) G (by decide) dX9_isThere_20 rfl ?_
      refine bq_goto (q := 25) G dX9_isThere_21 (by decide) ?_
      exact bq_ri (hret _ _ dX9_isThere_25) (by rw [if_pos ⟨c4, c17⟩]) rfl rfl
set_option maxHeartbeats 1000000 in
set_option maxRecDepth 100000 in
theorem c_X9_there {z : Nat} {I : bq_IR} {L : bq_LR}   : bq_FC MX9_there z [.ref (z + 75)] 85 (bq_Rf z) I L 0 0 (some (.int (gs_orb (I 79) 8))) 85 (bq_Rf z) (I) (L) := by
  refine bq_ofI [some (.ref (z + 75)), none, none] rfl (Nat.le_of_ble_eq_true rfl) (by decide) rfl rfl ?_
  intro A G hret
  have G : bq_Cx cX9_there RX9 3 z (bq_rm MX9_there 0 0) "there" A := G
  have loop : ∀ k, k ≤ 8 → A 0 0 4 [some (.ref (z + 75)), some (.int (gs_orb (I 79) k)), some (.int (nI k))] [] 85 (bq_Rf z) I L := by
    refine bq_down 8 ?_
    intro k hk ih
    rcases Nat.lt_or_ge k 8 with hk8 | hk8
    · refine bq_iload_n (q := 5) G rfl dX9_there_4 rfl ?_
      refine bq_bipush (q := 7) (v := 8) G (by decide) dX9_there_5 rfl ?_
      refine bq_icmp_ge_f (q := 10) (t := 30) G dX9_there_7 rfl (by decide) (nI_ge (a := k) (b := 8) hk8 (by decide)) ?_
      refine bq_iload_n (q := 11) G rfl dX9_there_10 rfl ?_
      refine bq_aload_n (q := 12) G rfl dX9_there_11 rfl ?_
      refine bq_getr (q := 15) G dX9_there_12 rfl fl_X9_19 (by first | assumption | exact ⟨Nat.le_of_ble_eq_true rfl, rfl⟩) (fun _ _ _ => rfl) (rf_75_5 z) ?_
      refine bq_bipush (q := 17) (v := 51) G (by decide) dX9_there_15 rfl ?_
      refine bq_iload_n (q := 18) G rfl dX9_there_17 rfl ?_
      refine bq_iadd (q := 19) G dX9_there_18 rfl ?_
      refine bq_iald (q := 20) G dX9_there_19 rfl (by first | assumption | exact ⟨Nat.le_of_ble_eq_true rfl, rfl⟩) (bq_ixa (a := 51) rfl (by first | with_reducible assumption | with_reducible exact rfl | exact rfl)) (by first | with_reducible assumption | omega | decide) (by decide) ?_
      refine bq_iload_n (q := 21) G rfl dX9_there_20 rfl ?_
      refine bq_ishl (q := 22) G dX9_there_21 rfl ?_
      refine bq_ior (q := 23) G dX9_there_22 rfl ?_
      refine bq_istore_n (q := 24) (ls' := [_, _, _]) G dX9_there_23 rfl (by decide) rfl rfl ?_
      refine bq_iinc (q := 27) (ls' := [_, _, _]) G dX9_there_24 rfl rfl (by first | exact nI_1 _ | exact pk_m1 _ | rfl) (by decide) rfl rfl ?_
      refine bq_goto (q := 4) G dX9_there_27 (by decide) ?_
      exact ih hk8
    · have hk9 : k = 8 := by omega
      subst hk9
      refine bq_iload_n (q := 5) G rfl dX9_there_4 rfl ?_
      refine bq_bipush (q := 7) (v := 8) G (by decide) dX9_there_5 rfl ?_
      refine bq_icmp_ge_t (t := 30) G dX9_there_7 (by decide) (nI_le (a := 8) (b := 8) (by omega) (by decide)) ?_
      refine bq_iload_n (q := 31) G rfl dX9_there_30 rfl ?_
      exact hret _ _ dX9_there_31
  refine bq_iconst (q := 1) (v := 0) G (by decide) dX9_there_0 rfl ?_
  refine bq_istore_n (q := 2) (ls' := [_, _, _]) G dX9_there_1 rfl (by decide) rfl rfl ?_
  refine bq_iconst (q := 3) (v := 0) G (by decide) dX9_there_2 rfl ?_
  refine bq_istore_n (q := 4) (ls' := [_, _, _]) G dX9_there_3 rfl (by decide) rfl rfl ?_
  exact loop 0 (by omega)
set_option maxHeartbeats 1000000 in
set_option maxRecDepth 100000 in
theorem c_X9_ones {z n : Nat} {R : bq_RR} {I : bq_IR} {L : bq_LR} {v : Int32}  : bq_FC MX9_ones z [.int v] n R I L 0 0 (some (.int (gs_on v 8))) n R (I) (L) := by
  refine bq_ofI [some (.int v), none, none] rfl (Nat.le_of_ble_eq_true rfl) (by decide) rfl rfl ?_
  intro A G hret
  have G : bq_Cx cX9_ones RX9 3 z (bq_rm MX9_ones 0 0) "ones" A := G
  have loop : ∀ k, k ≤ 8 → A 0 0 4 [some (.int v), some (.int (gs_on v k)), some (.int (nI k))] [] n R I L := by
    refine bq_down 8 ?_
    intro k hk ih
    rcases Nat.lt_or_ge k 8 with hk8 | hk8
    · refine bq_iload_n (q := 5) G rfl dX9_ones_4 rfl ?_
      refine bq_bipush (q := 7) (v := 8) G (by decide) dX9_ones_5 rfl ?_
      refine bq_icmp_ge_f (q := 10) (t := 24) G dX9_ones_7 rfl (by decide) (nI_ge (a := k) (b := 8) hk8 (by decide)) ?_
      refine bq_iload_n (q := 11) G rfl dX9_ones_10 rfl ?_
      refine bq_iload_n (q := 12) G rfl dX9_ones_11 rfl ?_
      refine bq_iload_n (q := 13) G rfl dX9_ones_12 rfl ?_
      refine bq_ishr (q := 14) G dX9_ones_13 rfl ?_
      refine bq_iconst (q := 15) (v := 1) G (by decide) dX9_ones_14 rfl ?_
      refine bq_iand (q := 16) G dX9_ones_15 rfl ?_
      refine bq_iadd (q := 17) G dX9_ones_16 rfl ?_
      refine bq_istore_n (q := 18) (ls' := [_, _, _]) G dX9_ones_17 rfl (by decide) rfl rfl ?_
      refine bq_iinc (q := 21) (ls' := [_, _, _]) G dX9_ones_18 rfl rfl (by first | exact nI_1 _ | exact pk_m1 _ | rfl) (by decide) rfl rfl ?_
      refine bq_goto (q := 4) G dX9_ones_21 (by decide) ?_
      exact ih hk8
    · have hk9 : k = 8 := by omega
      subst hk9
      refine bq_iload_n (q := 5) G rfl dX9_ones_4 rfl ?_
      refine bq_bipush (q := 7) (v := 8) G (by decide) dX9_ones_5 rfl ?_
      refine bq_icmp_ge_t (t := 24) G dX9_ones_7 (by decide) (nI_le (a := 8) (b := 8) (by omega) (by decide)) ?_
      refine bq_iload_n (q := 25) G rfl dX9_ones_24 rfl ?_
      exact hret _ _ dX9_ones_25
  refine bq_iconst (q := 1) (v := 0) G (by decide) dX9_ones_0 rfl ?_
  refine bq_istore_n (q := 2) (ls' := [_, _, _]) G dX9_ones_1 rfl (by decide) rfl rfl ?_
  refine bq_iconst (q := 3) (v := 0) G (by decide) dX9_ones_2 rfl ?_
  refine bq_istore_n (q := 4) (ls' := [_, _, _]) G dX9_ones_3 rfl (by decide) rfl rfl ?_
  exact loop 0 (by omega)
set_option maxHeartbeats 1000000 in
set_option maxRecDepth 100000 in
theorem c_X9_free {z : Nat} {I : bq_IR} {L : bq_LR}   : bq_FC MX9_free z [.ref (z + 75)] 85 (bq_Rf z) I L 0 0 (some (.int (gs_fk (I 79) 8 0))) 85 (bq_Rf z) (I) (L) := by
  refine bq_ofI [some (.ref (z + 75)), none, none] rfl (Nat.le_of_ble_eq_true rfl) (by decide) rfl rfl ?_
  intro A G hret
  have G : bq_Cx cX9_free RX9 3 z (bq_rm MX9_free 0 0) "free" A := G
  have loop : ∀ k, k ≤ 8 → A 0 0 6 [some (.ref (z + 75)), some (.int (gs_fk (I 79) (8 - k) k)), some (.int (nI k - 1))] [] 85 (bq_Rf z) I L := by
    intro k
    induction k with
    | zero =>
      intro _
      refine bq_iload_n (q := 7) G rfl dX9_free_6 rfl ?_
      refine bq_if_lt_t (t := 34) G dX9_free_7 (by decide) (by decide) ?_
      refine bq_iload_n (q := 35) G rfl dX9_free_34 rfl ?_
      exact hret _ _ dX9_free_35
    | succ k ih =>
      intro hk
      have e1 : nI (k + 1) - 1 = nI k := nI_pred k
      have e2 : 8 - k = (8 - (k + 1)) + 1 := by omega
      have st : ∀ v : Int32, v = gs_fk (I 79) (8 - k) k → A 0 0 27 [some (.ref (z + 75)), some (.int (gs_fk (I 79) (8 - (k + 1)) (k + 1))), some (.int (nI k))] [.int v] 85 (bq_Rf z) I L := by
        intro v hv
        refine bq_istore_n (q := 28) (ls' := [_, _, _]) G dX9_free_27 rfl (by decide) rfl rfl ?_
        refine bq_iinc (q := 31) (ls' := [_, _, _]) G dX9_free_28 rfl rfl (bq_m1 _) (by decide) rfl rfl ?_
        refine bq_goto (q := 6) G dX9_free_31 (by decide) ?_
        rw [hv]
        exact ih (by omega)
      rw [e1]
      refine bq_iload_n (q := 7) G rfl dX9_free_6 rfl ?_
      refine bq_if_lt_f (q := 10) (t := 34) G dX9_free_7 rfl (by decide) (nI_pos (by omega)) ?_
      refine bq_aload_n (q := 11) G rfl dX9_free_10 rfl ?_
      refine bq_getr (q := 14) G dX9_free_11 rfl fl_X9_19 (by first | assumption | exact ⟨Nat.le_of_ble_eq_true rfl, rfl⟩) (fun _ _ _ => rfl) (rf_75_5 z) ?_
      refine bq_bipush (q := 16) (v := 51) G (by decide) dX9_free_14 rfl ?_
      refine bq_iload_n (q := 17) G rfl dX9_free_16 rfl ?_
      refine bq_iadd (q := 18) G dX9_free_17 rfl ?_
      refine bq_iald (q := 19) G dX9_free_18 rfl (by first | assumption | exact ⟨Nat.le_of_ble_eq_true rfl, rfl⟩) (bq_ixa (a := 51) rfl (by first | with_reducible assumption | with_reducible exact rfl | exact rfl)) (by first | with_reducible assumption | omega | decide) (by decide) ?_
      first | refine bq_ifb_ne (t := 26) (q := 22) G dX9_free_19 (by decide) rfl (fun c19 => ?_) (fun c19 => ?_) | refine bq_if_ne (t := 26) (q := 22) G dX9_free_19 (by decide) rfl (fun c19 => ?_) (fun c19 => ?_)
      · refine bq_iload_n (q := 27) G rfl dX9_free_26 rfl ?_
        exact st _ (by rw [e2, gs_fk_s, if_neg c19])
      · refine bq_iload_n (q := 23) G rfl dX9_free_22 rfl ?_
        refine bq_goto (q := 27) G dX9_free_23 (by decide) ?_
        exact st _ (by rw [e2, gs_fk_s, if_pos c19])
  refine bq_bipush (q := 2) (v := -9) G (by decide) dX9_free_0 rfl ?_
  refine bq_istore_n (q := 3) (ls' := [_, _, _]) G dX9_free_2 rfl (by decide) rfl rfl ?_
  refine bq_bipush (q := 5) (v := 7) G (by decide) dX9_free_3 rfl ?_
  refine bq_istore_n (q := 6) (ls' := [_, _, _]) G dX9_free_5 rfl (by decide) rfl rfl ?_
  exact loop 8 (by omega)
set_option maxHeartbeats 1000000 in
set_option maxRecDepth 100000 in
theorem c_X9_canSplit {z : Nat} {I : bq_IR} {L : bq_LR} {k : Nat} (hk : k < 8) : bq_FC MX9_canSplit z [.ref (z + 75), .int (nI k)] 85 (bq_Rf z) I L 0 0 (some (.int (if I 79 (3 + k) = 1 ∨ ¬ gs_fk (I 79) 8 0 = -9 then 1 else 0))) 85 (bq_Rf z) (I) (L) := by
  refine bq_ofI [some (.ref (z + 75)), some (.int (nI k))] rfl (Nat.le_of_ble_eq_true rfl) (by decide) rfl (by first | rfl | exact bq_nb _ | (split <;> rfl)) ?_
  intro A G hret
  have G : bq_Cx cX9_canSplit RX9 2 z (bq_rm MX9_canSplit 0 0) "canSplit" A := G
  refine bq_aload_n (q := 1) G rfl dX9_canSplit_0 rfl ?_
  refine bq_getr (q := 4) G dX9_canSplit_1 rfl fl_X9_19 (by first | assumption | exact ⟨Nat.le_of_ble_eq_true rfl, rfl⟩) (fun _ _ _ => rfl) (rf_75_5 z) ?_
  refine bq_iconst (q := 5) (v := 3) G (by decide) dX9_canSplit_4 rfl ?_
  refine bq_iload_n (q := 6) G rfl dX9_canSplit_5 rfl ?_
  refine bq_iadd (q := 7) G dX9_canSplit_6 rfl ?_
  refine bq_iald (q := 8) G dX9_canSplit_7 rfl (by first | assumption | exact ⟨Nat.le_of_ble_eq_true rfl, rfl⟩) (bq_ixa (a := 3) rfl (by first | with_reducible assumption | with_reducible exact rfl | exact rfl)) (by first | with_reducible assumption | omega | decide) (by decide) ?_
  refine bq_iconst (q := 9) (v := 1) G (by decide) dX9_canSplit_8 rfl ?_
  refine bq_icmp_eq (t := 21) (q := 12) G dX9_canSplit_9 (by decide) rfl (fun c9 => ?_) (fun c9 => ?_)
  · refine bq_iconst (q := 22) (v := 1) G (by decide) dX9_canSplit_21 rfl ?_
    refine bq_goto (q := 26) G dX9_canSplit_22 (by decide) ?_
    exact bq_ri (hret _ _ dX9_canSplit_26) (by rw [if_pos (Or.inl c9)]) rfl rfl
  · refine bq_aload_n (q := 13) G rfl dX9_canSplit_12 rfl ?_
    refine bq_callv (q := 16) G dX9_canSplit_13 rfl cl_X9_126 (c_X9_free) rfl (by first | assumption | exact ⟨Nat.le_of_ble_eq_true rfl, rfl⟩) rfl ⟨Nat.le_of_ble_eq_true rfl, Nat.le_of_ble_eq_true rfl⟩ (Nat.le_of_ble_eq_true rfl) ⟨Nat.le_of_ble_eq_true rfl, Nat.le_of_ble_eq_true rfl⟩ rfl ?_
    refine bq_bipush (q := 18) (v := -9) G (by decide) dX9_canSplit_16 rfl ?_
    refine bq_icmp_eq (t := 25) (q := 21) G dX9_canSplit_18 (by decide) rfl (fun c18 => ?_) (fun c18 => ?_)
    · refine bq_iconst (q := 26) (v := 0) G (by decide) dX9_canSplit_25 rfl ?_
      exact bq_ri (hret _ _ dX9_canSplit_26) (by rw [if_neg (fun h => h.elim c9 (fun h => h c18))]) rfl rfl
    · refine bq_iconst (q := 22) (v := 1) G (by decide) dX9_canSplit_21 rfl ?_
      refine bq_goto (q := 26) G dX9_canSplit_22 (by decide) ?_
      exact bq_ri (hret _ _ dX9_canSplit_26) (by rw [if_pos (Or.inr c18)]) rfl rfl
set_option maxHeartbeats 1000000 in
set_option maxRecDepth 100000 in
theorem c_X9_asTold {z : Nat} {I : bq_IR} {L : bq_LR}   : bq_FC MX9_asTold z [.ref (z + 75)] 85 (bq_Rf z) I L 0 0 none 85 (bq_Rf z) (bq_sr I 75 (upd (upd (I 75) 16 (I 77 4)) 17 (I 77 2))) (L) := by
  refine bq_ofV [some (.ref (z + 75))] rfl (Nat.le_of_ble_eq_true rfl) (by decide) rfl ?_
  intro A G hret
  have G : bq_Cx cX9_asTold RX9 1 z (bq_rm MX9_asTold 0 0) "asTold" A := G
  refine bq_aload_n (q := 1) G rfl dX9_asTold_0 rfl ?_
  refine bq_aload_n (q := 2) G rfl dX9_asTold_1 rfl ?_
  refine bq_getr (q := 5) G dX9_asTold_2 rfl fl_X9_13 (by first | assumption | exact ⟨Nat.le_of_ble_eq_true rfl, rfl⟩) (fun _ _ _ => rfl) (rf_75_3 z) ?_
  refine bq_iconst (q := 6) (v := 4) G (by decide) dX9_asTold_5 rfl ?_
  refine bq_iald (q := 7) (b := 4) G dX9_asTold_6 rfl (by first | assumption | exact ⟨Nat.le_of_ble_eq_true rfl, rfl⟩) rfl (by first | with_reducible assumption | omega | decide) (by decide) ?_
  refine bq_puti (q := 10) G dX9_asTold_7 rfl fl_X9_104 (by first | assumption | exact ⟨Nat.le_of_ble_eq_true rfl, rfl⟩) rfl rfl ?_
  refine bq_aload_n (q := 11) G rfl dX9_asTold_10 rfl ?_
  refine bq_aload_n (q := 12) G rfl dX9_asTold_11 rfl ?_
  refine bq_getr (q := 15) G dX9_asTold_12 rfl fl_X9_13 (by first | assumption | exact ⟨Nat.le_of_ble_eq_true rfl, rfl⟩) (fun _ _ _ => rfl) (rf_75_3 z) ?_
  refine bq_iconst (q := 16) (v := 2) G (by decide) dX9_asTold_15 rfl ?_
  refine bq_iald (q := 17) (b := 2) G dX9_asTold_16 rfl (by first | assumption | exact ⟨Nat.le_of_ble_eq_true rfl, rfl⟩) rfl (by first | with_reducible assumption | omega | decide) (by decide) ?_
  refine bq_puti (q := 20) G dX9_asTold_17 rfl fl_X9_111 (by first | assumption | exact ⟨Nat.le_of_ble_eq_true rfl, rfl⟩) rfl rfl ?_
  refine bq_rv (hret _ _ dX9_asTold_20) rfl ?_ rfl
  simp only [bq_sr_s, bq_sr_sr, bq_sr_n (show (77 : Nat) ≠ 75 by decide)]
set_option maxHeartbeats 1000000 in
set_option maxRecDepth 100000 in
theorem c_X9_holds {z : Nat} {I : bq_IR} {L : bq_LR}   : bq_FC MX9_holds z [.ref (z + 75)] 85 (bq_Rf z) I L 0 0 none 85 (bq_Rf z) (bq_sr (bq_sr I 84 (gs_cp 59 (I 79) (I 84))) 75 (upd (upd (I 75) 16 (I 77 4)) 17 (I 77 2))) (L) := by
  refine bq_ofV [some (.ref (z + 75)), none] rfl (Nat.le_of_ble_eq_true rfl) (by decide) rfl ?_
  intro A G hret
  have G : bq_Cx cX9_holds RX9 2 z (bq_rm MX9_holds 0 0) "holds" A := G
  have n1 : (79 : Nat) ≠ 84 := by decide
  have loop : ∀ k, k ≤ 59 → A 0 0 2 [some (.ref (z + 75)), some (.int (nI k))] [] 85 (bq_Rf z) (bq_sr I 84 (gs_cp k (I 79) (I 84))) L := by
    refine bq_down 59 ?_
    intro k hk ih
    rcases Nat.lt_or_ge k 59 with hk8 | hk8
    · refine bq_iload_n (q := 3) G rfl dX9_holds_2 rfl ?_
      refine bq_bipush (q := 5) (v := 59) G (by decide) dX9_holds_3 rfl ?_
      refine bq_icmp_ge_f (q := 8) (t := 26) G dX9_holds_5 rfl (by decide) (nI_ge (a := k) (b := 59) hk8 (by decide)) ?_
      refine bq_aload_n (q := 9) G rfl dX9_holds_8 rfl ?_
      refine bq_getr (q := 12) G dX9_holds_9 rfl fl_X9_35 (by first | assumption | exact ⟨Nat.le_of_ble_eq_true rfl, rfl⟩) (fun _ _ _ => rfl) (rf_75_19 z) ?_
      refine bq_iload_n (q := 13) G rfl dX9_holds_12 rfl ?_
      refine bq_aload_n (q := 14) G rfl dX9_holds_13 rfl ?_
      refine bq_getr (q := 17) G dX9_holds_14 rfl fl_X9_19 (by first | assumption | exact ⟨Nat.le_of_ble_eq_true rfl, rfl⟩) (fun _ _ _ => rfl) (rf_75_5 z) ?_
      refine bq_iload_n (q := 18) G rfl dX9_holds_17 rfl ?_
      refine bq_iald (q := 19) G dX9_holds_18 rfl (by first | assumption | exact ⟨Nat.le_of_ble_eq_true rfl, rfl⟩) (by first | with_reducible assumption | with_reducible exact rfl | exact bq_ixa rfl (by with_reducible assumption) | exact rfl | exact bq_ixa rfl rfl | exact bq_ixa (by with_reducible assumption) rfl | exact bq_ixa rfl (bq_ixa (by first | rfl | with_reducible assumption) (by first | rfl | with_reducible assumption))) (by first | with_reducible assumption | omega | decide) (by decide) ?_
      refine bq_iast (q := 20) G dX9_holds_19 rfl (by first | assumption | exact ⟨Nat.le_of_ble_eq_true rfl, rfl⟩) (by first | with_reducible assumption | with_reducible exact rfl | exact bq_ixa rfl (by with_reducible assumption) | exact rfl | exact bq_ixa rfl rfl | exact bq_ixa (by with_reducible assumption) rfl | exact bq_ixa rfl (bq_ixa (by first | rfl | with_reducible assumption) (by first | rfl | with_reducible assumption))) (by first | with_reducible assumption | omega | decide) (by decide) ?_
      refine bq_iinc (q := 23) (ls' := [_, _]) G dX9_holds_20 rfl rfl (by first | exact nI_1 _ | exact pk_m1 _ | rfl) (by decide) rfl rfl ?_
      refine bq_goto (q := 2) G dX9_holds_23 (by decide) ?_
      refine bq_I ?_ (ih hk8)
      rw [gs_cp_s, bq_sr_sr, bq_sr_s, bq_sr_n n1]
    · have hk9 : k = 59 := by omega
      subst hk9
      refine bq_iload_n (q := 3) G rfl dX9_holds_2 rfl ?_
      refine bq_bipush (q := 5) (v := 59) G (by decide) dX9_holds_3 rfl ?_
      refine bq_icmp_ge_t (t := 26) G dX9_holds_5 (by decide) (nI_le (a := 59) (b := 59) (by omega) (by decide)) ?_
      refine bq_aload_n (q := 27) G rfl dX9_holds_26 rfl ?_
      refine bq_callv (q := 30) G dX9_holds_27 rfl cl_X9_120 (c_X9_asTold) rfl (by first | assumption | exact ⟨Nat.le_of_ble_eq_true rfl, rfl⟩) rfl ⟨Nat.le_of_ble_eq_true rfl, Nat.le_of_ble_eq_true rfl⟩ (Nat.le_of_ble_eq_true rfl) ⟨Nat.le_of_ble_eq_true rfl, Nat.le_of_ble_eq_true rfl⟩ rfl ?_
      refine bq_rv (hret _ _ dX9_holds_30) rfl ?_ rfl
      rw [bq_sr_n (show (77 : Nat) ≠ 84 by decide), bq_sr_n (show (75 : Nat) ≠ 84 by decide)]
  refine bq_iconst (q := 1) (v := 0) G (by decide) dX9_holds_0 rfl ?_
  refine bq_istore_n (q := 2) (ls' := [_, _]) G dX9_holds_1 rfl (by decide) rfl rfl ?_
  refine bq_I ?_ (loop 0 (by omega))
  rw [gs_cp_0, bq_sr_id]
set_option maxHeartbeats 1000000 in
set_option maxRecDepth 100000 in
theorem c_X9_lets {z : Nat} {I : bq_IR} {L : bq_LR}   : bq_FC MX9_lets z [.ref (z + 75)] 85 (bq_Rf z) I L 0 0 none 85 (bq_Rf z) (bq_sr I 79 (gs_cp 59 (I 84) (I 79))) (L) := by
  refine bq_ofV [some (.ref (z + 75)), none] rfl (Nat.le_of_ble_eq_true rfl) (by decide) rfl ?_
  intro A G hret
  have G : bq_Cx cX9_lets RX9 2 z (bq_rm MX9_lets 0 0) "lets" A := G
  have n1 : (84 : Nat) ≠ 79 := by decide
  have loop : ∀ k, k ≤ 59 → A 0 0 2 [some (.ref (z + 75)), some (.int (nI k))] [] 85 (bq_Rf z) (bq_sr I 79 (gs_cp k (I 84) (I 79))) L := by
    refine bq_down 59 ?_
    intro k hk ih
    rcases Nat.lt_or_ge k 59 with hk8 | hk8
    · refine bq_iload_n (q := 3) G rfl dX9_lets_2 rfl ?_
      refine bq_bipush (q := 5) (v := 59) G (by decide) dX9_lets_3 rfl ?_
      refine bq_icmp_ge_f (q := 8) (t := 26) G dX9_lets_5 rfl (by decide) (nI_ge (a := k) (b := 59) hk8 (by decide)) ?_
      refine bq_aload_n (q := 9) G rfl dX9_lets_8 rfl ?_
      refine bq_getr (q := 12) G dX9_lets_9 rfl fl_X9_19 (by first | assumption | exact ⟨Nat.le_of_ble_eq_true rfl, rfl⟩) (fun _ _ _ => rfl) (rf_75_5 z) ?_
      refine bq_iload_n (q := 13) G rfl dX9_lets_12 rfl ?_
      refine bq_aload_n (q := 14) G rfl dX9_lets_13 rfl ?_
      refine bq_getr (q := 17) G dX9_lets_14 rfl fl_X9_35 (by first | assumption | exact ⟨Nat.le_of_ble_eq_true rfl, rfl⟩) (fun _ _ _ => rfl) (rf_75_19 z) ?_
      refine bq_iload_n (q := 18) G rfl dX9_lets_17 rfl ?_
      refine bq_iald (q := 19) G dX9_lets_18 rfl (by first | assumption | exact ⟨Nat.le_of_ble_eq_true rfl, rfl⟩) (by first | with_reducible assumption | with_reducible exact rfl | exact bq_ixa rfl (by with_reducible assumption) | exact rfl | exact bq_ixa rfl rfl | exact bq_ixa (by with_reducible assumption) rfl | exact bq_ixa rfl (bq_ixa (by first | rfl | with_reducible assumption) (by first | rfl | with_reducible assumption))) (by first | with_reducible assumption | omega | decide) (by decide) ?_
      refine bq_iast (q := 20) G dX9_lets_19 rfl (by first | assumption | exact ⟨Nat.le_of_ble_eq_true rfl, rfl⟩) (by first | with_reducible assumption | with_reducible exact rfl | exact bq_ixa rfl (by with_reducible assumption) | exact rfl | exact bq_ixa rfl rfl | exact bq_ixa (by with_reducible assumption) rfl | exact bq_ixa rfl (bq_ixa (by first | rfl | with_reducible assumption) (by first | rfl | with_reducible assumption))) (by first | with_reducible assumption | omega | decide) (by decide) ?_
      refine bq_iinc (q := 23) (ls' := [_, _]) G dX9_lets_20 rfl rfl (by first | exact nI_1 _ | exact pk_m1 _ | rfl) (by decide) rfl rfl ?_
      refine bq_goto (q := 2) G dX9_lets_23 (by decide) ?_
      refine bq_I ?_ (ih hk8)
      rw [gs_cp_s, bq_sr_sr, bq_sr_s, bq_sr_n n1]
    · have hk9 : k = 59 := by omega
      subst hk9
      refine bq_iload_n (q := 3) G rfl dX9_lets_2 rfl ?_
      refine bq_bipush (q := 5) (v := 59) G (by decide) dX9_lets_3 rfl ?_
      refine bq_icmp_ge_t (t := 26) G dX9_lets_5 (by decide) (nI_le (a := 59) (b := 59) (by omega) (by decide)) ?_
      exact hret _ _ dX9_lets_26
  refine bq_iconst (q := 1) (v := 0) G (by decide) dX9_lets_0 rfl ?_
  refine bq_istore_n (q := 2) (ls' := [_, _]) G dX9_lets_1 rfl (by decide) rfl rfl ?_
  refine bq_I ?_ (loop 0 (by omega))
  rw [gs_cp_0, bq_sr_id]
/-! minutes to come -/
def gs_it (w d ar : Int32) (S : Nat → Int32) : Nat → Nat → Int32
  | 0 => S
  | k + 1 => gs_go w d ar (gs_it w d ar S k)
def gs_hi (w d ar : Int32) (S : Nat → Int32) (k : Nat) : Int32 := gs_it w d ar S k 1 / ar
def gs_mo (w d ar : Int32) (S : Nat → Int32) : Nat → Int32
  | 0 => gs_hi w d ar S 0
  | k + 1 => if gs_mo w d ar S k < gs_hi w d ar S (k + 1) then gs_hi w d ar S (k + 1) else gs_mo w d ar S k
theorem gs_mo_s (w d ar : Int32) (S : Nat → Int32) (k : Nat) : gs_mo w d ar S (k + 1) = if gs_mo w d ar S k < gs_hi w d ar S (k + 1) then gs_hi w d ar S (k + 1) else gs_mo w d ar S k := rfl
/-- the model, so many minutes on: its row, and how much ran off in the last -/
def gs_mI (I : bq_IR) (w d : Int32) (k : Nat) (J : bq_IR) : Prop := J 79 = gs_it w d (I 77 1) (I 79) k ∧ (J 75 16 = w ∧ J 75 17 = d ∧ ∀ j, j ≠ 18 → J 75 j = I 75 j) ∧ ∀ x, x ≠ 75 → x ≠ 79 → J x = I x
theorem gs_mI.go {I J : bq_IR} {w d : Int32} {k : Nat} (h : gs_mI I w d k J) : gs_mI I w d (k + 1) (bq_sr (bq_sr J 75 (upd (J 75) 18 (gs_ran (gs_T (J 75 16) (J 79)).1 (J 75 17)))) 79 (gs_go (J 75 16) (J 75 17) (J 77 1) (J 79))) := by
  obtain ⟨h1, ⟨h2, h3, h4⟩, h5⟩ := h
  refine ⟨?_, ⟨?_, ?_, fun j hj => ?_⟩, fun x hx hx2 => ?_⟩
  · rw [bq_sr_s, h1, h2, h3, h5 77 (by decide) (by decide)]; rfl
  · rw [bq_sr_n (by decide), bq_sr_s, pk_un (by decide)]; exact h2
  · rw [bq_sr_n (by decide), bq_sr_s, pk_un (by decide)]; exact h3
  · rw [bq_sr_n (by decide), bq_sr_s, pk_un hj]; exact h4 j hj
  · rw [bq_sr_n hx2, bq_sr_n hx]; exact h5 x hx hx2
set_option maxHeartbeats 1000000 in
set_option maxRecDepth 100000 in
theorem c_X9_highest {z : Nat} {I : bq_IR} {L : bq_LR} {m : Nat} (hA : ¬ I 77 1 = 0) (hm : m < 1000) : bq_FI MX9_highest z [.ref (z + 75), .int (nI m)] 85 (bq_Rf z) I L (fun r J L' => r = gs_mo (I 75 16) (I 75 17) (I 77 1) (I 79) m ∧ gs_mI I (I 75 16) (I 75 17) m J ∧ L' = L) := by
  refine bq_FIof [some (.ref (z + 75)), some (.int (nI m)), none, none] rfl (Nat.le_of_ble_eq_true rfl) (by decide) rfl (fun _ _ _ _ => rfl) ?_
  intro A G hret
  have G : bq_Cx cX9_highest RX9 4 z (bq_rm MX9_highest 0 0) "highest" A := G
  have hh : ∀ {k : Nat} {J : bq_IR}, gs_mI I (I 75 16) (I 75 17) k J → J 79 1 / J 77 1 = gs_hi (I 75 16) (I 75 17) (I 77 1) (I 79) k := fun h => by unfold gs_hi; rw [h.1, h.2.2 77 (by decide) (by decide)]
  have hA2 : ∀ {k : Nat} {J : bq_IR}, gs_mI I (I 75 16) (I 75 17) k J → ¬ J 77 1 = 0 := fun h => by rw [h.2.2 77 (by decide) (by decide)]; exact hA
  have loop : ∀ k, k ≤ m → ∀ J, gs_mI I (I 75 16) (I 75 17) k J → A 0 0 7 [some (.ref (z + 75)), some (.int (nI m)), some (.int (gs_mo (I 75 16) (I 75 17) (I 77 1) (I 79) k)), some (.int (nI k))] [] 85 (bq_Rf z) J L := by
    refine bq_down m ?_
    intro k hk ih J hJ
    rcases Nat.lt_or_ge k m with hk8 | hk8
    · have g := hJ.go
      have st : ∀ v : Int32, v = gs_mo (I 75 16) (I 75 17) (I 77 1) (I 79) (k + 1) → A 0 0 33 [some (.ref (z + 75)), some (.int (nI m)), some (.int (gs_mo (I 75 16) (I 75 17) (I 77 1) (I 79) k)), some (.int (nI k))] [.int v] 85 (bq_Rf z) (bq_sr (bq_sr J 75 (upd (J 75) 18 (gs_ran (gs_T (J 75 16) (J 79)).1 (J 75 17)))) 79 (gs_go (J 75 16) (J 75 17) (J 77 1) (J 79))) L := by
        intro v hv
        subst hv
        refine bq_istore_n (q := 34) (ls' := [_, _, _, _]) G dX9_highest_33 rfl (by decide) rfl rfl ?_
        refine bq_iinc (q := 37) (ls' := [_, _, _, _]) G dX9_highest_34 rfl rfl (by first | exact nI_1 _ | exact pk_m1 _ | rfl) (by decide) rfl rfl ?_
        refine bq_goto (q := 7) G dX9_highest_37 (by decide) ?_
        exact ih hk8 _ g
      refine bq_iload_n (q := 8) G rfl dX9_highest_7 rfl ?_
      refine bq_iload_n (q := 9) G rfl dX9_highest_8 rfl ?_
      refine bq_icmp_ge_f (q := 12) (t := 40) G dX9_highest_9 rfl (by decide) (nI_ge (a := k) (b := m) hk8 (by omega)) ?_
      refine bq_aload_n (q := 13) G rfl dX9_highest_12 rfl ?_
      refine bq_callv (q := 16) G dX9_highest_13 rfl cl_X9_123 (c_X9_goes (hA2 hJ)) rfl (by first | assumption | exact ⟨Nat.le_of_ble_eq_true rfl, rfl⟩) rfl ⟨Nat.le_of_ble_eq_true rfl, Nat.le_of_ble_eq_true rfl⟩ (Nat.le_of_ble_eq_true rfl) ⟨Nat.le_of_ble_eq_true rfl, Nat.le_of_ble_eq_true rfl⟩ rfl ?_
      refine bq_pop (q := 17) G rfl dX9_highest_16 rfl ?_
      refine bq_aload_n (q := 18) G rfl dX9_highest_17 rfl ?_
      refine bq_callv (q := 21) G dX9_highest_18 rfl cl_X9_88 (c_X9_high (hA2 g)) rfl (by first | assumption | exact ⟨Nat.le_of_ble_eq_true rfl, rfl⟩) rfl ⟨Nat.le_of_ble_eq_true rfl, Nat.le_of_ble_eq_true rfl⟩ (Nat.le_of_ble_eq_true rfl) ⟨Nat.le_of_ble_eq_true rfl, Nat.le_of_ble_eq_true rfl⟩ rfl ?_
      refine bq_iload_n (q := 22) G rfl dX9_highest_21 rfl ?_
      refine bq_icmp_le (t := 32) (q := 25) G dX9_highest_22 (by decide) rfl (fun c22 => ?_) (fun c22 => ?_)
      · rw [hh g] at c22
        refine bq_iload_n (q := 33) G rfl dX9_highest_32 rfl ?_
        refine st _ ?_
        rw [gs_mo_s, if_neg (Int32.not_lt.mpr c22)]
      · rw [hh g] at c22
        refine bq_aload_n (q := 26) G rfl dX9_highest_25 rfl ?_
        refine bq_callv (q := 29) G dX9_highest_26 rfl cl_X9_88 (c_X9_high (hA2 g)) rfl (by first | assumption | exact ⟨Nat.le_of_ble_eq_true rfl, rfl⟩) rfl ⟨Nat.le_of_ble_eq_true rfl, Nat.le_of_ble_eq_true rfl⟩ (Nat.le_of_ble_eq_true rfl) ⟨Nat.le_of_ble_eq_true rfl, Nat.le_of_ble_eq_true rfl⟩ rfl ?_
        refine bq_goto (q := 33) G dX9_highest_29 (by decide) ?_
        refine st _ ?_
        rw [hh g, gs_mo_s, if_pos (Int32.not_le.mp c22)]
    · have hk9 : k = m := by omega
      subst hk9
      refine bq_iload_n (q := 8) G rfl dX9_highest_7 rfl ?_
      refine bq_iload_n (q := 9) G rfl dX9_highest_8 rfl ?_
      refine bq_icmp_ge_t (t := 40) G dX9_highest_9 (by decide) (nI_le (a := k) (b := k) (by omega) (by omega)) ?_
      refine bq_iload_n (q := 41) G rfl dX9_highest_40 rfl ?_
      exact hret _ _ _ _ _ dX9_highest_41 ⟨rfl, hJ, rfl⟩
  have h0 : gs_mI I (I 75 16) (I 75 17) 0 I := ⟨rfl, ⟨rfl, rfl, fun _ _ => rfl⟩, fun _ _ _ => rfl⟩
  refine bq_aload_n (q := 1) G rfl dX9_highest_0 rfl ?_
  refine bq_callv (q := 4) G dX9_highest_1 rfl cl_X9_88 (c_X9_high hA) rfl (by first | assumption | exact ⟨Nat.le_of_ble_eq_true rfl, rfl⟩) rfl ⟨Nat.le_of_ble_eq_true rfl, Nat.le_of_ble_eq_true rfl⟩ (Nat.le_of_ble_eq_true rfl) ⟨Nat.le_of_ble_eq_true rfl, Nat.le_of_ble_eq_true rfl⟩ rfl ?_
  refine bq_istore_n (q := 5) (ls' := [_, _, _, _]) G dX9_highest_4 rfl (by decide) rfl rfl ?_
  refine bq_iconst (q := 6) (v := 0) G (by decide) dX9_highest_5 rfl ?_
  refine bq_istore_n (q := 7) (ls' := [_, _, _, _]) G dX9_highest_6 rfl (by decide) rfl rfl ?_
  exact loop 0 (by omega) I h0
