/-! the first free number, splitting -/
def gs_fk (S : Nat → Int32) : Nat → Nat → Int32
  | 0, _ => -9
  | d + 1, k => if S (51 + k) = 0 then nI k else gs_fk S d (k + 1)
theorem gs_fk_or (S : Nat → Int32) : ∀ d k, gs_fk S d k = -9 ∨ ∃ o, k ≤ o ∧ o < k + d ∧ gs_fk S d k = nI o ∧ S (51 + o) = 0
  | 0, k => Or.inl rfl
  | d + 1, k => by
    unfold gs_fk
    split
    · rename_i h; exact Or.inr ⟨k, Nat.le_refl k, by omega, rfl, h⟩
    · rcases gs_fk_or S d (k + 1) with h | ⟨o, h1, h2, h3, h4⟩
      · exact Or.inl h
      · exact Or.inr ⟨o, by omega, by omega, h3, h4⟩
theorem gs_fk_neg {S : Nat → Int32} : gs_fk S 8 0 < 0 ↔ gs_fk S 8 0 = -9 := by
  rcases gs_fk_or S 8 0 with h | ⟨o, -, h2, h3, -⟩
  · rw [h]; decide
  · rw [h3]
    refine ⟨fun h => absurd h (nI_pos (by omega)), fun h => ?_⟩
    have : (nI o).toInt = (-9 : Int32).toInt := by rw [h]
    rw [nI_toInt (by omega)] at this
    have e9 : (-9 : Int32).toInt = -9 := by decide
    omega
theorem gs_fk_congr {S S' : Nat → Int32} (h : ∀ j, j < 8 → S' (51 + j) = S (51 + j)) : ∀ d k, k + d ≤ 8 → gs_fk S' d k = gs_fk S d k
  | 0, k, _ => rfl
  | d + 1, k, hk => by unfold gs_fk; rw [h k (by omega), gs_fk_congr h d (k + 1) (by omega)]
set_option maxHeartbeats 1000000 in
set_option maxRecDepth 100000 in
theorem c_X5_firstFree {z n : Nat} {R : bq_RR} {I : bq_IR} {L : bq_LR} {a : Nat} {S : Nat → Int32} (hM0 : bq_OB n a 5) (hF : gs_F S 51 (I a 9)) : bq_FC MX5_firstFree z [.ref (z + a)] n R I L 0 0 (some (.int (gs_fk S 8 0))) n R (I) (L) := by
  refine bq_ofI [some (.ref (z + a)), none] rfl (Nat.le_of_ble_eq_true rfl) (by decide) rfl rfl ?_
  intro A G hret
  have G : bq_Cx cX5_firstFree RX5 2 z (bq_rm MX5_firstFree 0 0) "firstFree" A := G
  have loop : ∀ k, k ≤ 8 → gs_fk S (8 - k) k = gs_fk S 8 0 → A 0 0 2 [some (.ref (z + a)), some (.int (nI k))] [] n R I L := by
    refine bq_down 8 ?_
    intro k hk ih he
    rcases Nat.lt_or_ge k 8 with hk8 | hk8
    · have hd : 8 - k = (8 - (k + 1)) + 1 := by omega
      rw [hd] at he
      unfold gs_fk at he
      refine bq_iload_n (q := 3) G rfl dX5_firstFree_2 rfl ?_
      refine bq_bipush (q := 5) (v := 8) G (by decide) dX5_firstFree_3 rfl ?_
      refine bq_icmp_ge_f (q := 8) (t := 24) G dX5_firstFree_5 rfl (by decide) (nI_ge (a := k) (b := 8) hk8 (by decide)) ?_
      refine bq_aload_n (q := 9) G rfl dX5_firstFree_8 rfl ?_
      refine bq_iload_n (q := 10) G rfl dX5_firstFree_9 rfl ?_
      refine bq_callv (q := 13) G dX5_firstFree_10 rfl cl_X5_50 (c_isThere hM0 hk8 hF) rfl (by first | assumption | exact ⟨Nat.le_of_ble_eq_true rfl, rfl⟩) rfl ⟨Nat.le_of_ble_eq_true rfl, Nat.le_of_ble_eq_true rfl⟩ (Nat.le_of_ble_eq_true rfl) ⟨Nat.le_of_ble_eq_true rfl, Nat.le_of_ble_eq_true rfl⟩ rfl ?_
      first | refine bq_ifb_ne (t := 18) (q := 16) G dX5_firstFree_13 (by decide) rfl (fun c13 => ?_) (fun c13 => ?_) | refine bq_if_ne (t := 18) (q := 16) G dX5_firstFree_13 (by decide) rfl (fun c13 => ?_) (fun c13 => ?_)
      · rw [if_neg (by rw [c13]; decide)] at he
        refine bq_iinc (q := 21) (ls' := [_, _]) G dX5_firstFree_18 rfl rfl (by first | exact nI_1 _ | exact pk_m1 _ | rfl) (by decide) rfl rfl ?_
        refine bq_goto (q := 2) G dX5_firstFree_21 (by decide) ?_
        exact ih hk8 he
      · have : S (51 + k) = 0 := by
          rcases hF.b01 hk8 with h | h
          · exact h
          · exact absurd h c13
        rw [if_pos this] at he
        refine bq_iload_n (q := 17) G rfl dX5_firstFree_16 rfl ?_
        exact bq_ri (hret _ _ dX5_firstFree_17) he rfl rfl
    · have hk9 : k = 8 := by omega
      subst hk9
      refine bq_iload_n (q := 3) G rfl dX5_firstFree_2 rfl ?_
      refine bq_bipush (q := 5) (v := 8) G (by decide) dX5_firstFree_3 rfl ?_
      refine bq_icmp_ge_t (t := 24) G dX5_firstFree_5 (by decide) (nI_le (a := 8) (b := 8) (by omega) (by decide)) ?_
      refine bq_bipush (q := 26) (v := -9) G (by decide) dX5_firstFree_24 rfl ?_
      exact bq_ri (hret _ _ dX5_firstFree_26) he rfl rfl
  refine bq_iconst (q := 1) (v := 0) G (by decide) dX5_firstFree_0 rfl ?_
  refine bq_istore_n (q := 2) (ls' := [_, _]) G dX5_firstFree_1 rfl (by decide) rfl rfl ?_
  exact loop 0 (by omega) rfl
set_option maxHeartbeats 1000000 in
set_option maxRecDepth 100000 in
theorem c_X5_canSplit {z n : Nat} {R : bq_RR} {I : bq_IR} {L : bq_LR} {a : Nat} {k : Nat} {S : Nat → Int32} (hM : bq_Mo z n R a) (hC : bq_MC I a S) (hk : k < 8) : bq_FC MX5_canSplit z [.ref (z + a), .int (nI k)] n R I L 0 0 (some (.int (if S (51 + k) = 1 ∧ (S (3 + k) ≤ 1 ∨ 0 ≤ gs_fk S 8 0) then 1 else 0))) n R (I) (L) := by
  refine bq_ofI [some (.ref (z + a)), some (.int (nI k))] rfl (Nat.le_of_ble_eq_true rfl) (by decide) rfl (by first | rfl | exact bq_nb _ | (split <;> rfl)) ?_
  intro A G hret
  have G : bq_Cx cX5_canSplit RX5 2 z (bq_rm MX5_canSplit 0 0) "canSplit" A := G
  obtain ⟨hM0, hM1, hM2, hM3, hR3, hR4, hR5⟩ := id hM
  have es := (hC.2.1 k hk).1
  refine bq_aload_n (q := 1) G rfl dX5_canSplit_0 rfl ?_
  refine bq_iload_n (q := 2) G rfl dX5_canSplit_1 rfl ?_
  refine bq_callv (q := 5) G dX5_canSplit_2 rfl cl_X5_50 (c_isThere hM0 hk hC.2.2.2.2.2) rfl (by first | assumption | exact ⟨Nat.le_of_ble_eq_true rfl, rfl⟩) rfl ⟨Nat.le_of_ble_eq_true rfl, Nat.le_of_ble_eq_true rfl⟩ (Nat.le_of_ble_eq_true rfl) ⟨Nat.le_of_ble_eq_true rfl, Nat.le_of_ble_eq_true rfl⟩ rfl ?_
  first | refine bq_ifb_eq (t := 29) (q := 8) G dX5_canSplit_5 (by decide) rfl (fun c5 => ?_) (fun c5 => ?_) | refine bq_if_eq (t := 29) (q := 8) G dX5_canSplit_5 (by decide) rfl (fun c5 => ?_) (fun c5 => ?_)
  · refine bq_iconst (q := 30) (v := 0) G (by decide) dX5_canSplit_29 rfl ?_
    exact bq_ri (hret _ _ dX5_canSplit_30) (by rw [if_neg (fun h => c5 h.1)]) rfl rfl
  · refine bq_aload_n (q := 9) G rfl dX5_canSplit_8 rfl ?_
    refine bq_getr (q := 12) G dX5_canSplit_9 rfl fl_X5_9 (by first | assumption | exact ⟨Nat.le_of_ble_eq_true rfl, rfl⟩) (fun _ _ _ => rfl) (by first | assumption | rfl) ?_
    refine bq_iload_n (q := 13) G rfl dX5_canSplit_12 rfl ?_
    refine bq_iald (q := 14) G dX5_canSplit_13 rfl (by first | assumption | exact ⟨Nat.le_of_ble_eq_true rfl, rfl⟩) (by first | with_reducible assumption | with_reducible exact rfl | exact bq_ixa rfl (by with_reducible assumption) | exact rfl | exact bq_ixa rfl rfl | exact bq_ixa (by with_reducible assumption) rfl | exact bq_ixa rfl (bq_ixa (by first | rfl | with_reducible assumption) (by first | rfl | with_reducible assumption))) (by first | with_reducible assumption | omega | decide) (by decide) ?_
    refine bq_iconst (q := 15) (v := 1) G (by decide) dX5_canSplit_14 rfl ?_
    refine bq_icmp_le (t := 25) (q := 18) G dX5_canSplit_15 (by decide) rfl (fun c15 => ?_) (fun c15 => ?_)
    · rw [es] at c15
      refine bq_iconst (q := 26) (v := 1) G (by decide) dX5_canSplit_25 rfl ?_
      refine bq_goto (q := 30) G dX5_canSplit_26 (by decide) ?_
      exact bq_ri (hret _ _ dX5_canSplit_30) (by rw [if_pos ⟨c5, Or.inl c15⟩]) rfl rfl
    · rw [es] at c15
      refine bq_aload_n (q := 19) G rfl dX5_canSplit_18 rfl ?_
      refine bq_callv (q := 22) G dX5_canSplit_19 rfl cl_X5_74 (c_X5_firstFree hM0 hC.2.2.2.2.2) rfl (by first | assumption | exact ⟨Nat.le_of_ble_eq_true rfl, rfl⟩) rfl ⟨Nat.le_of_ble_eq_true rfl, Nat.le_of_ble_eq_true rfl⟩ (Nat.le_of_ble_eq_true rfl) ⟨Nat.le_of_ble_eq_true rfl, Nat.le_of_ble_eq_true rfl⟩ rfl ?_
      refine bq_if_lt (t := 29) (q := 25) G dX5_canSplit_22 (by decide) rfl (fun c22 => ?_) (fun c22 => ?_)
      · refine bq_iconst (q := 30) (v := 0) G (by decide) dX5_canSplit_29 rfl ?_
        exact bq_ri (hret _ _ dX5_canSplit_30) (by rw [if_neg (fun h => h.2.elim c15 (fun h => Int32.not_lt.mpr h c22))]) rfl rfl
      · refine bq_iconst (q := 26) (v := 1) G (by decide) dX5_canSplit_25 rfl ?_
        refine bq_goto (q := 30) G dX5_canSplit_26 (by decide) ?_
        exact bq_ri (hret _ _ dX5_canSplit_30) (by rw [if_pos ⟨c5, Or.inr (Int32.not_lt.mp c22)⟩]) rfl rfl
set_option maxHeartbeats 1000000 in
set_option maxRecDepth 100000 in
theorem c_X5_alike {z n : Nat} {R : bq_RR} {I : bq_IR} {L : bq_LR} {x b o : Int32}  : bq_FC MX5_alike z [.int x, .int b, .int o] n R I L 0 0 (some (.int ((x &&& ((1 <<< (o &&& 31)) ^^^ (-1))) ||| ((x >>> (b &&& 31) &&& 1) <<< (o &&& 31))))) n R (I) (L) := by
  refine bq_ofI [some (.int x), some (.int b), some (.int o)] rfl (Nat.le_of_ble_eq_true rfl) (by decide) rfl rfl ?_
  intro A G hret
  have G : bq_Cx cX5_alike RX5 3 z (bq_rm MX5_alike 0 0) "alike" A := G
  refine bq_iload_n (q := 1) G rfl dX5_alike_0 rfl ?_
  refine bq_iconst (q := 2) (v := 1) G (by decide) dX5_alike_1 rfl ?_
  refine bq_iload_n (q := 3) G rfl dX5_alike_2 rfl ?_
  refine bq_ishl (q := 4) G dX5_alike_3 rfl ?_
  refine bq_iconst (q := 5) (v := -1) G (by decide) dX5_alike_4 rfl ?_
  refine bq_ixor (q := 6) G dX5_alike_5 rfl ?_
  refine bq_iand (q := 7) G dX5_alike_6 rfl ?_
  refine bq_iload_n (q := 8) G rfl dX5_alike_7 rfl ?_
  refine bq_iload_n (q := 9) G rfl dX5_alike_8 rfl ?_
  refine bq_callsN (q := 12) G dX5_alike_9 rfl (by first | exact Or.inl ⟨rfl, rfl⟩ | exact Or.inr ⟨rfl, rfl⟩) (c_X8_bitOf) rfl rfl ⟨Nat.le_of_ble_eq_true rfl, Nat.le_of_ble_eq_true rfl⟩ (Nat.le_of_ble_eq_true rfl) ⟨Nat.le_of_ble_eq_true rfl, Nat.le_of_ble_eq_true rfl⟩ rfl ?_
  refine bq_iload_n (q := 13) G rfl dX5_alike_12 rfl ?_
  refine bq_ishl (q := 14) G dX5_alike_13 rfl ?_
  refine bq_ior (q := 15) G dX5_alike_14 rfl ?_
  exact hret _ _ dX5_alike_15
theorem gs_sh0 : ∀ o, o < 8 → (0 : Int32) <<< (nI o &&& 31) = 0 := by decide +kernel
theorem gs_or0 (x : Int32) : x ||| 0 = x := by
  apply Int32.toBitVec_inj.mp
  simp
theorem gs_uu {S : Nat → Int32} {i : Nat} {v w : Int32} : upd (upd S i v) i w = upd S i w := by
  funext j; unfold upd; split <;> rfl
theorem gs_F.like {S : Nat → Int32} {f : Nat} {w : Int32} (h : gs_F S f w) {k o : Nat} (hk : k < 8) (ho : o < 8) : gs_F (upd S (f + o) (S (f + k))) f ((w &&& ((1 <<< (nI o &&& 31)) ^^^ (-1))) ||| ((w >>> (nI k &&& 31) &&& 1) <<< (nI o &&& 31))) := by
  rw [h.get hk]
  rcases h.b01 hk with e | e <;> rw [e]
  · rw [gs_sh0 o ho, gs_or0]; exact h.set0 ho
  · have h2 := (h.set0 ho).set1 ho
    rw [gs_uu] at h2
    exact h2
def gs_com (S : Nat → Int32) (k : Nat) (m : Int32) : Int32 := if m < (if 1 < S (19 + k) then S (19 + k) else 1) then 0 else 1 + (m - (if 1 < S (19 + k) then S (19 + k) else 1)) / S (11 + k)
set_option maxHeartbeats 1000000 in
set_option maxRecDepth 100000 in
theorem c_X5_comings {z n : Nat} {R : bq_RR} {I : bq_IR} {L : bq_LR} {a : Nat} {k : Nat} {m : Int32} {S : Nat → Int32} (hM : bq_Mo z n R a) (hC : bq_MC I a S) (hk : k < 8) (ht : S (51 + k) = 1) (hp : 1 ≤ S (11 + k)) : bq_FC MX5_comings z [.ref (z + a), .int (nI k), .int m] n R I L 0 0 (some (.int (gs_com S k m))) n R (I) (L) := by
  refine bq_ofI [some (.ref (z + a)), some (.int (nI k)), some (.int m), none] rfl (Nat.le_of_ble_eq_true rfl) (by decide) rfl rfl ?_
  intro A G hret
  have G : bq_Cx cX5_comings RX5 4 z (bq_rm MX5_comings 0 0) "comings" A := G
  obtain ⟨hM0, hM1, hM2, hM3, hR3, hR4, hR5⟩ := id hM
  obtain ⟨es, ep, ed⟩ := hC.2.1 k hk
  refine bq_aload_n (q := 1) G rfl dX5_comings_0 rfl ?_
  refine bq_iload_n (q := 2) G rfl dX5_comings_1 rfl ?_
  refine bq_callv (q := 5) G dX5_comings_2 rfl cl_X5_50 (c_isThere hM0 hk hC.2.2.2.2.2) rfl (by first | assumption | exact ⟨Nat.le_of_ble_eq_true rfl, rfl⟩) rfl ⟨Nat.le_of_ble_eq_true rfl, Nat.le_of_ble_eq_true rfl⟩ (Nat.le_of_ble_eq_true rfl) ⟨Nat.le_of_ble_eq_true rfl, Nat.le_of_ble_eq_true rfl⟩ rfl ?_
  first | refine bq_ifb_eq (t := 18) (q := 8) G dX5_comings_5 (by decide) rfl (fun c5 => ?_) (fun c5 => ?_) | refine bq_if_eq (t := 18) (q := 8) G dX5_comings_5 (by decide) rfl (fun c5 => ?_) (fun c5 => ?_)
  · exact absurd ht c5
  · refine bq_aload_n (q := 9) G rfl dX5_comings_8 rfl ?_
    refine bq_getr (q := 12) G dX5_comings_9 rfl fl_X5_15 (by first | assumption | exact ⟨Nat.le_of_ble_eq_true rfl, rfl⟩) (fun _ _ _ => rfl) (by first | assumption | rfl) ?_
    refine bq_iload_n (q := 13) G rfl dX5_comings_12 rfl ?_
    refine bq_iald (q := 14) G dX5_comings_13 rfl (by first | assumption | exact ⟨Nat.le_of_ble_eq_true rfl, rfl⟩) (by first | with_reducible assumption | with_reducible exact rfl | exact bq_ixa rfl (by with_reducible assumption) | exact rfl | exact bq_ixa rfl rfl | exact bq_ixa (by with_reducible assumption) rfl | exact bq_ixa rfl (bq_ixa (by first | rfl | with_reducible assumption) (by first | rfl | with_reducible assumption))) (by first | with_reducible assumption | omega | decide) (by decide) ?_
    refine bq_iconst (q := 15) (v := 1) G (by decide) dX5_comings_14 rfl ?_
    refine bq_icmp_ge (t := 20) (q := 18) G dX5_comings_15 (by decide) rfl (fun c15 => ?_) (fun c15 => ?_)
    · rw [ep] at c15
      refine bq_iconst (q := 21) (v := 1) G (by decide) dX5_comings_20 rfl ?_
      refine bq_aload_n (q := 22) G rfl dX5_comings_21 rfl ?_
      refine bq_getr (q := 25) G dX5_comings_22 rfl fl_X5_18 (by first | assumption | exact ⟨Nat.le_of_ble_eq_true rfl, rfl⟩) (fun _ _ _ => rfl) (by first | assumption | rfl) ?_
      refine bq_iload_n (q := 26) G rfl dX5_comings_25 rfl ?_
      refine bq_iald (q := 27) G dX5_comings_26 rfl (by first | assumption | exact ⟨Nat.le_of_ble_eq_true rfl, rfl⟩) (by first | with_reducible assumption | with_reducible exact rfl | exact bq_ixa rfl (by with_reducible assumption) | exact rfl | exact bq_ixa rfl rfl | exact bq_ixa (by with_reducible assumption) rfl | exact bq_ixa rfl (bq_ixa (by first | rfl | with_reducible assumption) (by first | rfl | with_reducible assumption))) (by first | with_reducible assumption | omega | decide) (by decide) ?_
      refine bq_calls (q := 30) G dX5_comings_27 rfl cl_X5_70 (c_J9_max_7cf53) rfl rfl ⟨Nat.le_of_ble_eq_true rfl, Nat.le_of_ble_eq_true rfl⟩ (Nat.le_of_ble_eq_true rfl) ⟨Nat.le_of_ble_eq_true rfl, Nat.le_of_ble_eq_true rfl⟩ rfl ?_
      refine bq_istore_n (q := 31) (ls' := [_, _, _, _]) G dX5_comings_30 rfl (by decide) rfl rfl ?_
      refine bq_iload_n (q := 32) G rfl dX5_comings_31 rfl ?_
      refine bq_iload_n (q := 33) G rfl dX5_comings_32 rfl ?_
      refine bq_icmp_ge (t := 40) (q := 36) G dX5_comings_33 (by decide) rfl (fun c33 => ?_) (fun c33 => ?_)
      · refine bq_iconst (q := 41) (v := 1) G (by decide) dX5_comings_40 rfl ?_
        refine bq_iload_n (q := 42) G rfl dX5_comings_41 rfl ?_
        refine bq_iload_n (q := 43) G rfl dX5_comings_42 rfl ?_
        refine bq_isub (q := 44) G dX5_comings_43 rfl ?_
        refine bq_aload_n (q := 45) G rfl dX5_comings_44 rfl ?_
        refine bq_getr (q := 48) G dX5_comings_45 rfl fl_X5_15 (by first | assumption | exact ⟨Nat.le_of_ble_eq_true rfl, rfl⟩) (fun _ _ _ => rfl) (by first | assumption | rfl) ?_
        refine bq_iload_n (q := 49) G rfl dX5_comings_48 rfl ?_
        refine bq_iald (q := 50) G dX5_comings_49 rfl (by first | assumption | exact ⟨Nat.le_of_ble_eq_true rfl, rfl⟩) (by first | with_reducible assumption | with_reducible exact rfl | exact bq_ixa rfl (by with_reducible assumption) | exact rfl | exact bq_ixa rfl rfl | exact bq_ixa (by with_reducible assumption) rfl | exact bq_ixa rfl (bq_ixa (by first | rfl | with_reducible assumption) (by first | rfl | with_reducible assumption))) (by first | with_reducible assumption | omega | decide) (by decide) ?_
        refine bq_idiv (q := 51) G (by rw [ep]; intro h; rw [h] at c15; exact absurd c15 (by decide)) dX5_comings_50 rfl ?_
        refine bq_iadd (q := 52) G dX5_comings_51 rfl ?_
        rw [ed] at c33
        exact bq_ri (hret _ _ dX5_comings_52) (by unfold gs_com; rw [if_neg (Int32.not_lt.mpr c33), ed, ep]) rfl rfl
      · refine bq_iconst (q := 37) (v := 0) G (by decide) dX5_comings_36 rfl ?_
        refine bq_goto (q := 52) G dX5_comings_37 (by decide) ?_
        rw [ed] at c33
        exact bq_ri (hret _ _ dX5_comings_52) (by unfold gs_com; rw [if_pos (Int32.not_le.mp c33)]) rfl rfl
    · rw [ep] at c15
      exact absurd hp c15
set_option maxHeartbeats 1000000 in
set_option maxRecDepth 100000 in
theorem c_X5_place {z n : Nat} {R : bq_RR} {I : bq_IR} {L : bq_LR} {a : Nat} {k : Nat} {u v w : Int32} {S : Nat → Int32} (hM : bq_Mo z n R a) (hC : bq_MC I a S) (hk : k < 8) : bq_FV MX5_place z [.ref (z + a), .int (nI k), .int u, .int v, .int w] n R I L (fun J L' => (bq_MC J a (upd (upd (upd (upd S (3 + k) u) (11 + k) v) (19 + k) w) (51 + k) 1) ∧ J a 0 = I a 0 ∧ J a 2 = I a 2 ∧ J a 10 = I a 10 ∧ J a 11 = I a 11) ∧ (∀ x, (x < a ∨ a + 3 < x) → J x = I x) ∧ L' = L) := by
  refine bq_FVof [some (.ref (z + a)), some (.int (nI k)), some (.int u), some (.int v), some (.int w)] rfl (Nat.le_of_ble_eq_true rfl) (by decide) rfl ?_
  intro A G hret
  have G : bq_Cx cX5_place RX5 5 z (bq_rm MX5_place 0 0) "place" A := G
  obtain ⟨hM0, hM1, hM2, hM3, hR3, hR4, hR5⟩ := id hM
  refine bq_iload_n (q := 1) G rfl dX5_place_0 rfl ?_
  refine bq_if_lt_f (q := 4) (t := 10) G dX5_place_1 rfl (by decide) (nI_pos (by omega)) ?_
  refine bq_iload_n (q := 5) G rfl dX5_place_4 rfl ?_
  refine bq_bipush (q := 7) (v := 8) G (by decide) dX5_place_5 rfl ?_
  refine bq_icmp_lt_t (t := 11) G dX5_place_7 (by decide) (nI_lt (b := 8) hk (by decide)) ?_
  refine bq_aload_n (q := 12) G rfl dX5_place_11 rfl ?_
  refine bq_getr (q := 15) G dX5_place_12 rfl fl_X5_9 (by first | assumption | exact ⟨Nat.le_of_ble_eq_true rfl, rfl⟩) (fun _ _ _ => rfl) (by first | assumption | rfl) ?_
  refine bq_iload_n (q := 16) G rfl dX5_place_15 rfl ?_
  refine bq_iload_n (q := 17) G rfl dX5_place_16 rfl ?_
  refine bq_iast (q := 18) G dX5_place_17 rfl (by first | assumption | exact ⟨Nat.le_of_ble_eq_true rfl, rfl⟩) (by first | with_reducible assumption | with_reducible exact rfl | exact bq_ixa rfl (by with_reducible assumption) | exact rfl | exact bq_ixa rfl rfl | exact bq_ixa (by with_reducible assumption) rfl | exact bq_ixa rfl (bq_ixa (by first | rfl | with_reducible assumption) (by first | rfl | with_reducible assumption))) (by first | with_reducible assumption | omega | decide) (by decide) ?_
  refine bq_aload_n (q := 19) G rfl dX5_place_18 rfl ?_
  refine bq_getr (q := 22) G dX5_place_19 rfl fl_X5_15 (by first | assumption | exact ⟨Nat.le_of_ble_eq_true rfl, rfl⟩) (fun _ _ _ => rfl) (by first | assumption | rfl) ?_
  refine bq_iload_n (q := 23) G rfl dX5_place_22 rfl ?_
  refine bq_iload_n (q := 24) G rfl dX5_place_23 rfl ?_
  refine bq_iast (q := 25) G dX5_place_24 rfl (by first | assumption | exact ⟨Nat.le_of_ble_eq_true rfl, rfl⟩) (by first | with_reducible assumption | with_reducible exact rfl | exact bq_ixa rfl (by with_reducible assumption) | exact rfl | exact bq_ixa rfl rfl | exact bq_ixa (by with_reducible assumption) rfl | exact bq_ixa rfl (bq_ixa (by first | rfl | with_reducible assumption) (by first | rfl | with_reducible assumption))) (by first | with_reducible assumption | omega | decide) (by decide) ?_
  refine bq_aload_n (q := 26) G rfl dX5_place_25 rfl ?_
  refine bq_getr (q := 29) G dX5_place_26 rfl fl_X5_18 (by first | assumption | exact ⟨Nat.le_of_ble_eq_true rfl, rfl⟩) (fun _ _ _ => rfl) (by first | assumption | rfl) ?_
  refine bq_iload_n (q := 30) G rfl dX5_place_29 rfl ?_
  refine bq_iload (q := 32) G rfl dX5_place_30 rfl ?_
  refine bq_iast (q := 33) G dX5_place_32 rfl (by first | assumption | exact ⟨Nat.le_of_ble_eq_true rfl, rfl⟩) (by first | with_reducible assumption | with_reducible exact rfl | exact bq_ixa rfl (by with_reducible assumption) | exact rfl | exact bq_ixa rfl rfl | exact bq_ixa (by with_reducible assumption) rfl | exact bq_ixa rfl (bq_ixa (by first | rfl | with_reducible assumption) (by first | rfl | with_reducible assumption))) (by first | with_reducible assumption | omega | decide) (by decide) ?_
  refine bq_aload_n (q := 34) G rfl dX5_place_33 rfl ?_
  refine bq_dup (q := 35) G rfl dX5_place_34 rfl ?_
  refine bq_geti (q := 38) G dX5_place_35 rfl fl_X5_40 (by first | assumption | exact ⟨Nat.le_of_ble_eq_true rfl, rfl⟩) rfl ?_
  refine bq_iconst (q := 39) (v := 1) G (by decide) dX5_place_38 rfl ?_
  refine bq_iload_n (q := 40) G rfl dX5_place_39 rfl ?_
  refine bq_ishl (q := 41) G dX5_place_40 rfl ?_
  refine bq_ior (q := 42) G dX5_place_41 rfl ?_
  refine bq_puti (q := 45) G dX5_place_42 rfl fl_X5_40 (by first | assumption | exact ⟨Nat.le_of_ble_eq_true rfl, rfl⟩) rfl rfl ?_
  have m3 := ((hC.size hk u).pace hk v).due hk w
  refine hret _ _ _ _ dX5_place_45 ⟨⟨m3.there (m3.2.2.2.2.2.set1 hk) (fun j hj => pk_un (by omega)), ?_, ?_, ?_, ?_⟩, ?_, rfl⟩
  · simp [bq_sr, upd]
  · simp [bq_sr, upd]
  · simp [bq_sr, upd]
  · simp [bq_sr, upd]
  · intro x hx
    simp only [bq_sr]
    (repeat' split) <;> first | rfl | omega
