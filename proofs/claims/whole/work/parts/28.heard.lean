def gs_hv (w d ar : Int32) (S : Nat → Int32) (b : Int32) : Nat → Int32
  | 0 => 1 <<< (b &&& 31)
  | k + 1 => gs_hv w d ar S b k ||| (if (gs_T w (gs_it w d ar S k)).2.2 &&& gs_hv w d ar S b k = 0 then 0 else (gs_T w (gs_it w d ar S k)).2.2)
def gs_hrk (w d ar : Int32) (S : Nat → Int32) (b : Int32) : Nat → Nat → Int32
  | 0, m => if gs_hv w d ar S b m = gs_orb S 8 then nI m else -9
  | f + 1, m => if gs_hv w d ar S b m = gs_orb S 8 then nI m else gs_hrk w d ar S b f (m + 1)
theorem gs_hrk_s (w d ar : Int32) (S : Nat → Int32) (b : Int32) (f m : Nat) : gs_hrk w d ar S b (f + 1) m = if gs_hv w d ar S b m = gs_orb S 8 then nI m else gs_hrk w d ar S b f (m + 1) := rfl
theorem gs_hrk_if (w d ar : Int32) (S : Nat → Int32) (b : Int32) (f m : Nat) (h : gs_hv w d ar S b m = gs_orb S 8) : gs_hrk w d ar S b f m = nI m := by
  cases f <;> (unfold gs_hrk; rw [if_pos h])
def gs_heard (T S : Nat → Int32) (b : Int32) : Int32 := if (0 ≤ b ∧ b ≤ 7) ∧ S (51 + b.toNatClampNeg) = 1 then gs_hrk (T 4) (T 2) (T 1) S b 200 0 else -1
/-- the widest stair, the least drain -/
def gs_stk (T S : Nat → Int32) (m : Nat) : Nat → Int32
  | 0 => -9
  | v + 1 => if gs_mo (nI (v + 1)) (T 2) (T 1) S m ≤ T 3 then nI (v + 1) else gs_stk T S m v
def gs_drk (T S : Nat → Int32) (m : Nat) : Nat → Nat → Int32
  | 0, _ => -9
  | f + 1, v => if gs_mo (T 4) (nI v) (T 1) S m ≤ T 3 then nI v else gs_drk T S m f (v + 1)
theorem gs_stk_s (T S : Nat → Int32) (m v : Nat) : gs_stk T S m (v + 1) = if gs_mo (nI (v + 1)) (T 2) (T 1) S m ≤ T 3 then nI (v + 1) else gs_stk T S m v := rfl
theorem gs_drk_s (T S : Nat → Int32) (m f v : Nat) : gs_drk T S m (f + 1) v = if gs_mo (T 4) (nI v) (T 1) S m ≤ T 3 then nI v else gs_drk T S m f (v + 1) := rfl
def gs_stair (T S : Nat → Int32) (n : Int32) : Int32 := if 1 ≤ n ∧ n ≤ 60 then gs_stk T S n.toNatClampNeg 8 else -1
def gs_drain (T S : Nat → Int32) (n : Int32) : Int32 := if 1 ≤ n ∧ n ≤ 60 then gs_drk T S n.toNatClampNeg 21 0 else -1
/-- at rest between two looks ahead -/
def gs_rest (I J : bq_IR) : Prop := gs_on1 I J ∧ J 79 = I 79
theorem gs_rest.lets {I J K : bq_IR} {w d : Int32} {k : Nat} (h : gs_rest I J) (hK : gs_mI J w d k K) : gs_rest I (bq_sr K 79 (gs_cp 59 (K 84) (K 79))) := by
  have h1 := h.1.mI hK
  have h2 := h1.lets
  refine ⟨⟨⟨fun j hj => ?_, fun j hj => by rw [h2.1]⟩, h2.2.1, fun x a b c => h2.2.2 x a b c⟩, h2.1⟩
  rw [bq_sr_n (by decide)]; exact h1.1.1 j hj
theorem gs_rest.put {I J : bq_IR} (h : gs_rest I J) {i : Nat} (hi : i = 16 ∨ i = 17) (v : Int32) : gs_rest I (bq_sr J 75 (upd (J 75) i v)) := by
  refine ⟨⟨⟨fun j hj => ?_, fun j hj => ?_⟩, fun j a b c => ?_, fun x a b c => ?_⟩, ?_⟩
  · rw [bq_sr_n (by decide)]; exact h.1.1.1 j hj
  · rw [bq_sr_n (by decide)]; exact h.1.1.2 j hj
  · rw [bq_sr_s, pk_un (by omega)]; exact h.1.2.1 j a b c
  · rw [bq_sr_n a]; exact h.1.2.2 x a b c
  · rw [bq_sr_n (by decide)]; exact h.2
theorem gs_rest.mK {I J : bq_IR} (h : gs_rest I J) : gs_mK I J → True := fun _ => trivial
theorem gs_rest.fin {I J : bq_IR} (h : gs_rest I J) : gs_mK I J := ⟨h.2, h.1.2.1, h.1.2.2⟩
set_option maxHeartbeats 1000000 in
set_option maxRecDepth 100000 in
theorem c_X9_heard {z : Nat} {I : bq_IR} {L : bq_LR} {b : Int32} (hA : ¬ I 77 1 = 0) : bq_FI MX9_heard z [.ref (z + 75), .int b] 85 (bq_Rf z) I L (fun r J L' => r = gs_heard (I 77) (I 79) b ∧ gs_mK I J ∧ L' = L) := by
  refine bq_FIof [some (.ref (z + 75)), some (.int b), none, none, none, none] rfl (Nat.le_of_ble_eq_true rfl) (by decide) rfl (fun _ _ _ _ => rfl) ?_
  intro A G hret
  have G : bq_Cx cX9_heard RX9 6 z (bq_rm MX9_heard 0 0) "heard" A := G
  refine bq_aload_n (q := 1) G rfl dX9_heard_0 rfl ?_
  refine bq_iload_n (q := 2) G rfl dX9_heard_1 rfl ?_
  refine bq_callv (q := 5) G dX9_heard_2 rfl cl_X9_129 (c_X9_isThere) rfl (by first | assumption | exact ⟨Nat.le_of_ble_eq_true rfl, rfl⟩) rfl ⟨Nat.le_of_ble_eq_true rfl, Nat.le_of_ble_eq_true rfl⟩ (Nat.le_of_ble_eq_true rfl) ⟨Nat.le_of_ble_eq_true rfl, Nat.le_of_ble_eq_true rfl⟩ rfl ?_
  first | refine bq_ifb_ne (t := 10) (q := 8) G dX9_heard_5 (by decide) rfl (fun c5 => ?_) (fun c5 => ?_) | refine bq_if_ne (t := 10) (q := 8) G dX9_heard_5 (by decide) rfl (fun c5 => ?_) (fun c5 => ?_)
  · have hr0 : gs_heard (I 77) (I 79) b = gs_hrk (I 77 4) (I 77 2) (I 77 1) (I 79) b 200 0 := by unfold gs_heard; rw [if_pos c5]
    have fin : ∀ (m k : Nat) (r : Int32) (J : bq_IR) (l5 : Option Value), r = (if gs_hv (I 77 4) (I 77 2) (I 77 1) (I 79) b m = gs_orb (I 79) 8 then nI m else -9) → r = gs_heard (I 77) (I 79) b → gs_mI (gs_H I) (I 77 4) (I 77 2) k J → A 0 0 67 [some (.ref (z + 75)), some (.int b), some (.int (gs_orb (I 79) 8)), some (.int (gs_hv (I 77 4) (I 77 2) (I 77 1) (I 79) b m)), some (.int (nI m)), none] [] 85 (bq_Rf z) J L := by
      intro m k r J l5 hr hr2 hJ
      have hK := ((gs_on1.H I).mI hJ).lets
      refine bq_aload_n (q := 68) G rfl dX9_heard_67 rfl ?_
      refine bq_callv (q := 71) G dX9_heard_68 rfl cl_X9_144 (c_X9_lets) rfl (by first | assumption | exact ⟨Nat.le_of_ble_eq_true rfl, rfl⟩) rfl ⟨Nat.le_of_ble_eq_true rfl, Nat.le_of_ble_eq_true rfl⟩ (Nat.le_of_ble_eq_true rfl) ⟨Nat.le_of_ble_eq_true rfl, Nat.le_of_ble_eq_true rfl⟩ rfl ?_
      refine bq_iload_n (q := 72) G rfl dX9_heard_71 rfl ?_
      refine bq_iload_n (q := 73) G rfl dX9_heard_72 rfl ?_
      refine bq_icmp_ne (t := 81) (q := 76) G dX9_heard_73 (by decide) rfl (fun c73 => ?_) (fun c73 => ?_)
      · rw [if_neg c73] at hr
        refine bq_bipush (q := 83) (v := -9) G (by decide) dX9_heard_81 rfl ?_
        exact hret _ _ _ _ _ dX9_heard_83 ⟨hr.symm.trans hr2, hK, rfl⟩
      · rw [if_pos c73] at hr
        refine bq_iload (q := 78) G rfl dX9_heard_76 rfl ?_
        refine bq_goto (q := 83) G dX9_heard_78 (by decide) ?_
        exact hret _ _ _ _ _ dX9_heard_83 ⟨hr.symm.trans hr2, hK, rfl⟩
    have loop : ∀ k, k ≤ 200 → gs_hrk (I 77 4) (I 77 2) (I 77 1) (I 79) b (200 - k) k = gs_heard (I 77) (I 79) b → ∀ J, gs_mI (gs_H I) (I 77 4) (I 77 2) k J → A 0 0 26 [some (.ref (z + 75)), some (.int b), some (.int (gs_orb (I 79) 8)), some (.int (gs_hv (I 77 4) (I 77 2) (I 77 1) (I 79) b k)), some (.int (nI k)), none] [] 85 (bq_Rf z) J L := by
      refine bq_down 200 ?_
      intro k hk ih he J hJ
      have hA2 := gs_arJ hA (gs_on1.H I) hJ
      refine bq_iload_n (q := 27) G rfl dX9_heard_26 rfl ?_
      refine bq_iload_n (q := 28) G rfl dX9_heard_27 rfl ?_
      refine bq_icmp_eq (t := 67) (q := 31) G dX9_heard_28 (by decide) rfl (fun c28 => ?_) (fun c28 => ?_)
      · exact fin k k _ J none rfl (by rw [← he, if_pos c28, gs_hrk_if _ _ _ _ _ _ _ c28]) hJ
      · rcases Nat.lt_or_ge k 200 with hk8 | hk8
        · rw [show 200 - k = (200 - (k + 1)) + 1 by omega, gs_hrk_s, if_neg c28] at he
          have e1 : (gs_T (J 75 16) (J 79)).2.2 = (gs_T (I 77 4) (gs_it (I 77 4) (I 77 2) (I 77 1) (I 79) k)).2.2 := by rw [hJ.2.1.1, hJ.1, gs_H79, gs_H77]
          have st : ∀ v : Int32, v = (if (gs_T (I 77 4) (gs_it (I 77 4) (I 77 2) (I 77 1) (I 79) k)).2.2 &&& gs_hv (I 77 4) (I 77 2) (I 77 1) (I 79) b k = 0 then 0 else (gs_T (I 77 4) (gs_it (I 77 4) (I 77 2) (I 77 1) (I 79) k)).2.2) → ∀ l5 : Int32, A 0 0 59 [some (.ref (z + 75)), some (.int b), some (.int (gs_orb (I 79) 8)), some (.int (gs_hv (I 77 4) (I 77 2) (I 77 1) (I 79) b k)), some (.int (nI k)), some (.int l5)] [.int v, .int (gs_hv (I 77 4) (I 77 2) (I 77 1) (I 79) b k)] 85 (bq_Rf z) (bq_sr (bq_sr J 75 (upd (J 75) 18 (gs_ran (gs_T (J 75 16) (J 79)).1 (J 75 17)))) 79 (gs_go (J 75 16) (J 75 17) (J 77 1) (J 79))) L := by
            intro v hv l5
            subst hv
            refine bq_ior (q := 60) G dX9_heard_59 rfl ?_
            refine bq_istore_n (q := 61) (ls' := [_, _, _, _, _, _]) G dX9_heard_60 rfl (by decide) rfl rfl ?_
            refine bq_iinc (q := 64) (ls' := [_, _, _, _, _, _]) G dX9_heard_61 rfl rfl (by first | exact nI_1 _ | exact pk_m1 _ | rfl) (by decide) rfl rfl ?_
            refine bq_goto (q := 26) G dX9_heard_64 (by decide) ?_
            refine bq_forget G ?_ (ih hk8 he _ hJ.go)
            repeat (first | exact bq_le_0 _ | refine bq_le_n ?_ | refine bq_le_s rfl ?_)
          refine bq_iload (q := 33) G rfl dX9_heard_31 rfl ?_
          refine bq_sipush (q := 36) (v := 200) G (by decide) dX9_heard_33 rfl ?_
          refine bq_icmp_ge_f (q := 39) (t := 67) G dX9_heard_36 rfl (by decide) (nI_ge (a := k) (b := 200) hk8 (by decide)) ?_
          refine bq_aload_n (q := 40) G rfl dX9_heard_39 rfl ?_
          refine bq_callv (q := 43) G dX9_heard_40 rfl cl_X9_123 (c_X9_goes hA2) rfl (by first | assumption | exact ⟨Nat.le_of_ble_eq_true rfl, rfl⟩) rfl ⟨Nat.le_of_ble_eq_true rfl, Nat.le_of_ble_eq_true rfl⟩ (Nat.le_of_ble_eq_true rfl) ⟨Nat.le_of_ble_eq_true rfl, Nat.le_of_ble_eq_true rfl⟩ rfl ?_
          refine bq_istore (q := 45) (ls' := [_, _, _, _, _, _]) G dX9_heard_43 rfl (by decide) rfl rfl ?_
          refine bq_iload_n (q := 46) G rfl dX9_heard_45 rfl ?_
          refine bq_iload (q := 48) G rfl dX9_heard_46 rfl ?_
          refine bq_iload_n (q := 49) G rfl dX9_heard_48 rfl ?_
          refine bq_iand (q := 50) G dX9_heard_49 rfl ?_
          first | refine bq_ifb_eq (t := 58) (q := 53) G dX9_heard_50 (by decide) rfl (fun c50 => ?_) (fun c50 => ?_) | refine bq_if_eq (t := 58) (q := 53) G dX9_heard_50 (by decide) rfl (fun c50 => ?_) (fun c50 => ?_)
          · rw [e1] at c50
            refine bq_iconst (q := 59) (v := 0) G (by decide) dX9_heard_58 rfl ?_
            exact st _ (by rw [if_pos c50]) _
          · rw [e1] at c50
            refine bq_iload (q := 55) G rfl dX9_heard_53 rfl ?_
            refine bq_goto (q := 59) G dX9_heard_55 (by decide) ?_
            exact st _ (by rw [if_neg c50, e1]) _
        · have hk9 : k = 200 := by omega
          subst hk9
          refine bq_iload (q := 33) G rfl dX9_heard_31 rfl ?_
          refine bq_sipush (q := 36) (v := 200) G (by decide) dX9_heard_33 rfl ?_
          refine bq_icmp_ge_t (t := 67) G dX9_heard_36 (by decide) (nI_le (a := 200) (b := 200) (by omega) (by decide)) ?_
          exact fin 200 200 _ J none rfl (by rw [← he]; rfl) hJ
    refine bq_aload_n (q := 11) G rfl dX9_heard_10 rfl ?_
    refine bq_callv (q := 14) G dX9_heard_11 rfl cl_X9_141 (c_holds) rfl (by first | assumption | exact ⟨Nat.le_of_ble_eq_true rfl, rfl⟩) rfl ⟨Nat.le_of_ble_eq_true rfl, Nat.le_of_ble_eq_true rfl⟩ (Nat.le_of_ble_eq_true rfl) ⟨Nat.le_of_ble_eq_true rfl, Nat.le_of_ble_eq_true rfl⟩ rfl ?_
    refine bq_aload_n (q := 15) G rfl dX9_heard_14 rfl ?_
    refine bq_callv (q := 18) G dX9_heard_15 rfl cl_X9_101 (c_X9_there) rfl (by first | assumption | exact ⟨Nat.le_of_ble_eq_true rfl, rfl⟩) rfl ⟨Nat.le_of_ble_eq_true rfl, Nat.le_of_ble_eq_true rfl⟩ (Nat.le_of_ble_eq_true rfl) ⟨Nat.le_of_ble_eq_true rfl, Nat.le_of_ble_eq_true rfl⟩ rfl ?_
    refine bq_istore_n (q := 19) (ls' := [_, _, _, _, _, _]) G dX9_heard_18 rfl (by decide) rfl rfl ?_
    refine bq_iconst (q := 20) (v := 1) G (by decide) dX9_heard_19 rfl ?_
    refine bq_iload_n (q := 21) G rfl dX9_heard_20 rfl ?_
    refine bq_ishl (q := 22) G dX9_heard_21 rfl ?_
    refine bq_istore_n (q := 23) (ls' := [_, _, _, _, _, _]) G dX9_heard_22 rfl (by decide) rfl rfl ?_
    refine bq_iconst (q := 24) (v := 0) G (by decide) dX9_heard_23 rfl ?_
    refine bq_istore (q := 26) (ls' := [_, _, _, _, _, _]) G dX9_heard_24 rfl (by decide) rfl rfl ?_
    rw [gs_H79]
    exact loop 0 (by omega) hr0.symm _ (gs_mI.H0 I)
  · refine bq_iconst (q := 9) (v := -1) G (by decide) dX9_heard_8 rfl ?_
    exact hret _ _ _ _ _ dX9_heard_9 ⟨by unfold gs_heard; rw [if_neg c5], gs_mK.rf I, rfl⟩
set_option maxHeartbeats 1000000 in
set_option maxRecDepth 100000 in
theorem c_X9_stair {z : Nat} {I : bq_IR} {L : bq_LR} {n : Int32} (hA : ¬ I 77 1 = 0) : bq_FI MX9_stair z [.ref (z + 75), .int n] 85 (bq_Rf z) I L (fun r J L' => r = gs_stair (I 77) (I 79) n ∧ gs_mK I J ∧ L' = L) := by
  refine bq_FIof [some (.ref (z + 75)), some (.int n), none, none] rfl (Nat.le_of_ble_eq_true rfl) (by decide) rfl (fun _ _ _ _ => rfl) ?_
  intro A G hret
  have G : bq_Cx cX9_stair RX9 4 z (bq_rm MX9_stair 0 0) "stair" A := G
  refine bq_iload_n (q := 1) G rfl dX9_stair_0 rfl ?_
  refine bq_iconst (q := 2) (v := 1) G (by decide) dX9_stair_1 rfl ?_
  refine bq_bipush (q := 4) (v := 60) G (by decide) dX9_stair_2 rfl ?_
  refine bq_calls (q := 7) G dX9_stair_4 rfl cl_X9_45 (c_X9_in) rfl rfl ⟨Nat.le_of_ble_eq_true rfl, Nat.le_of_ble_eq_true rfl⟩ (Nat.le_of_ble_eq_true rfl) ⟨Nat.le_of_ble_eq_true rfl, Nat.le_of_ble_eq_true rfl⟩ rfl ?_
  first | refine bq_ifb_ne (t := 12) (q := 10) G dX9_stair_7 (by decide) rfl (fun c7 => ?_) (fun c7 => ?_) | refine bq_if_ne (t := 12) (q := 10) G dX9_stair_7 (by decide) rfl (fun c7 => ?_) (fun c7 => ?_)
  · obtain ⟨m, hm, rfl⟩ := gs_in60 c7
    have hcl : (nI m).toNatClampNeg = m := nI_clamp (by omega)
    have loop : ∀ v, v ≤ 8 → ∀ J, gs_rest I J → J 75 17 = I 77 2 → A 0 0 21 [some (.ref (z + 75)), some (.int (nI m)), some (.int (gs_stk (I 77) (I 79) m v)), some (.int (nI (v + 1)))] [] 85 (bq_Rf z) J L := by
      refine bq_down 8 ?_
      intro v hv ih J hJ hd
      rcases Nat.lt_or_ge v 8 with hv8 | hv8
      · have hJ1 := hJ.put (Or.inl rfl) (nI (v + 1))
        have e77 : bq_sr J 75 (upd (J 75) 16 (nI (v + 1))) 77 = I 77 := hJ1.1.2.2 77 (by decide) (by decide) (by decide)
        have ew : bq_sr J 75 (upd (J 75) 16 (nI (v + 1))) 75 16 = nI (v + 1) := by rw [bq_sr_s, pk_us]
        have ed : bq_sr J 75 (upd (J 75) 16 (nI (v + 1))) 75 17 = I 77 2 := by rw [bq_sr_s, pk_un (by decide)]; exact hd
        refine bq_iload_n (q := 22) G rfl dX9_stair_21 rfl ?_
        refine bq_bipush (q := 24) (v := 9) G (by decide) dX9_stair_22 rfl ?_
        refine bq_icmp_ge_f (q := 27) (t := 62) G dX9_stair_24 rfl (by decide) (nI_ge (a := v + 1) (b := 9) (by omega) (by decide)) ?_
        refine bq_aload_n (q := 28) G rfl dX9_stair_27 rfl ?_
        refine bq_iload_n (q := 29) G rfl dX9_stair_28 rfl ?_
        refine bq_puti (q := 32) G dX9_stair_29 rfl fl_X9_104 (by first | assumption | exact ⟨Nat.le_of_ble_eq_true rfl, rfl⟩) rfl rfl ?_
        generalize bq_sr J 75 (upd (J 75) 16 (nI (v + 1))) = K at hJ1 e77 ew ed ⊢
        refine bq_aload_n (q := 33) G rfl dX9_stair_32 rfl ?_
        refine bq_iload_n (q := 34) G rfl dX9_stair_33 rfl ?_
        refine bq_callvI (q := 37) G dX9_stair_34 rfl cl_X9_147 (c_X9_highest (m := m) (by rw [e77]; exact hA) (by omega)) rfl (by first | assumption | exact ⟨Nat.le_of_ble_eq_true rfl, rfl⟩) rfl ⟨Nat.le_of_ble_eq_true rfl, Nat.le_of_ble_eq_true rfl⟩ (Nat.le_of_ble_eq_true rfl) ⟨Nat.le_of_ble_eq_true rfl, Nat.le_of_ble_eq_true rfl⟩ (fun r34 I34 L34 h34 => ?_)
        obtain ⟨e1, e2, rfl⟩ := h34
        rw [ew, ed, e77, hJ1.2] at e1
        have e3 : I34 77 = I 77 := by rw [e2.2.2 77 (by decide) (by decide), e77]
        have hl := hJ1.lets e2
        have hd2 : bq_sr I34 79 (gs_cp 59 (I34 84) (I34 79)) 75 17 = I 77 2 := by rw [bq_sr_n (by decide), e2.2.1.2.1, ed]
        have st : ∀ r : Int32, r = gs_stk (I 77) (I 79) m (v + 1) → ∀ l2 : Int32, A 0 0 51 [some (.ref (z + 75)), some (.int (nI m)), some (.int l2), some (.int (nI (v + 1)))] [.int r] 85 (bq_Rf z) I34 L34 := by
          intro r hr l2
          subst hr
          refine bq_istore_n (q := 52) (ls' := [_, _, _, _]) G dX9_stair_51 rfl (by decide) rfl rfl ?_
          refine bq_aload_n (q := 53) G rfl dX9_stair_52 rfl ?_
          refine bq_callv (q := 56) G dX9_stair_53 rfl cl_X9_144 (c_X9_lets) rfl (by first | assumption | exact ⟨Nat.le_of_ble_eq_true rfl, rfl⟩) rfl ⟨Nat.le_of_ble_eq_true rfl, Nat.le_of_ble_eq_true rfl⟩ (Nat.le_of_ble_eq_true rfl) ⟨Nat.le_of_ble_eq_true rfl, Nat.le_of_ble_eq_true rfl⟩ rfl ?_
          refine bq_iinc (q := 59) (ls' := [_, _, _, _]) G dX9_stair_56 rfl rfl (by first | exact nI_1 _ | exact pk_m1 _ | rfl) (by decide) rfl rfl ?_
          refine bq_goto (q := 21) G dX9_stair_59 (by decide) ?_
          exact ih hv8 _ hl hd2
        refine bq_aload_n (q := 38) G rfl dX9_stair_37 rfl ?_
        refine bq_getr (q := 41) G dX9_stair_38 rfl fl_X9_13 (by first | assumption | exact ⟨Nat.le_of_ble_eq_true rfl, rfl⟩) (fun _ _ _ => rfl) (rf_75_3 z) ?_
        refine bq_iconst (q := 42) (v := 3) G (by decide) dX9_stair_41 rfl ?_
        refine bq_iald (q := 43) (b := 3) G dX9_stair_42 rfl (by first | assumption | exact ⟨Nat.le_of_ble_eq_true rfl, rfl⟩) rfl (by first | with_reducible assumption | omega | decide) (by decide) ?_
        refine bq_icmp_gt (t := 50) (q := 46) G dX9_stair_43 (by decide) rfl (fun c43 => ?_) (fun c43 => ?_)
        · rw [e1, e3] at c43
          refine bq_iload_n (q := 51) G rfl dX9_stair_50 rfl ?_
          exact st _ (by rw [gs_stk_s, if_neg (Int32.not_le.mpr c43)]) _
        · rw [e1, e3] at c43
          refine bq_iload_n (q := 47) G rfl dX9_stair_46 rfl ?_
          refine bq_goto (q := 51) G dX9_stair_47 (by decide) ?_
          exact st _ (by rw [gs_stk_s, if_pos (Int32.not_lt.mp c43)]) _
      · have hv9 : v = 8 := by omega
        subst hv9
        refine bq_iload_n (q := 22) G rfl dX9_stair_21 rfl ?_
        refine bq_bipush (q := 24) (v := 9) G (by decide) dX9_stair_22 rfl ?_
        refine bq_icmp_ge_t (t := 62) G dX9_stair_24 (by decide) (nI_le (a := 9) (b := 9) (by omega) (by decide)) ?_
        refine bq_iload_n (q := 63) G rfl dX9_stair_62 rfl ?_
        exact hret _ _ _ _ _ dX9_stair_63 ⟨by unfold gs_stair; rw [if_pos c7, hcl], hJ.fin, rfl⟩
    refine bq_aload_n (q := 13) G rfl dX9_stair_12 rfl ?_
    refine bq_callv (q := 16) G dX9_stair_13 rfl cl_X9_141 (c_holds) rfl (by first | assumption | exact ⟨Nat.le_of_ble_eq_true rfl, rfl⟩) rfl ⟨Nat.le_of_ble_eq_true rfl, Nat.le_of_ble_eq_true rfl⟩ (Nat.le_of_ble_eq_true rfl) ⟨Nat.le_of_ble_eq_true rfl, Nat.le_of_ble_eq_true rfl⟩ rfl ?_
    refine bq_bipush (q := 18) (v := -9) G (by decide) dX9_stair_16 rfl ?_
    refine bq_istore_n (q := 19) (ls' := [_, _, _, _]) G dX9_stair_18 rfl (by decide) rfl rfl ?_
    refine bq_iconst (q := 20) (v := 1) G (by decide) dX9_stair_19 rfl ?_
    refine bq_istore_n (q := 21) (ls' := [_, _, _, _]) G dX9_stair_20 rfl (by decide) rfl rfl ?_
    exact loop 0 (by omega) _ ⟨gs_on1.H I, gs_H79 I⟩ (gs_Hd I)
  · refine bq_iconst (q := 11) (v := -1) G (by decide) dX9_stair_10 rfl ?_
    exact hret _ _ _ _ _ dX9_stair_11 ⟨by unfold gs_stair; rw [if_neg c7], gs_mK.rf I, rfl⟩
set_option maxHeartbeats 1000000 in
set_option maxRecDepth 100000 in
theorem c_X9_drain {z : Nat} {I : bq_IR} {L : bq_LR} {n : Int32} (hA : ¬ I 77 1 = 0) : bq_FI MX9_drain z [.ref (z + 75), .int n] 85 (bq_Rf z) I L (fun r J L' => r = gs_drain (I 77) (I 79) n ∧ gs_mK I J ∧ L' = L) := by
  refine bq_FIof [some (.ref (z + 75)), some (.int n), none, none] rfl (Nat.le_of_ble_eq_true rfl) (by decide) rfl (fun _ _ _ _ => rfl) ?_
  intro A G hret
  have G : bq_Cx cX9_drain RX9 4 z (bq_rm MX9_drain 0 0) "drain" A := G
  refine bq_iload_n (q := 1) G rfl dX9_drain_0 rfl ?_
  refine bq_iconst (q := 2) (v := 1) G (by decide) dX9_drain_1 rfl ?_
  refine bq_bipush (q := 4) (v := 60) G (by decide) dX9_drain_2 rfl ?_
  refine bq_calls (q := 7) G dX9_drain_4 rfl cl_X9_45 (c_X9_in) rfl rfl ⟨Nat.le_of_ble_eq_true rfl, Nat.le_of_ble_eq_true rfl⟩ (Nat.le_of_ble_eq_true rfl) ⟨Nat.le_of_ble_eq_true rfl, Nat.le_of_ble_eq_true rfl⟩ rfl ?_
  first | refine bq_ifb_ne (t := 12) (q := 10) G dX9_drain_7 (by decide) rfl (fun c7 => ?_) (fun c7 => ?_) | refine bq_if_ne (t := 12) (q := 10) G dX9_drain_7 (by decide) rfl (fun c7 => ?_) (fun c7 => ?_)
  · obtain ⟨m, hm, rfl⟩ := gs_in60 c7
    have hcl : (nI m).toNatClampNeg = m := nI_clamp (by omega)
    have loop : ∀ v, v ≤ 21 → ∀ J, gs_rest I J → J 75 16 = I 77 4 → A 0 0 22 [some (.ref (z + 75)), some (.int (nI m)), some (.int (gs_drk (I 77) (I 79) m (21 - v) v)), some (.int (nI v - 1))] [] 85 (bq_Rf z) J L := by
      intro v
      induction v with
      | zero =>
        intro _ J hJ hd
        refine bq_iload_n (q := 23) G rfl dX9_drain_22 rfl ?_
        refine bq_if_lt_t (t := 61) G dX9_drain_23 (by decide) (by decide) ?_
        refine bq_iload_n (q := 62) G rfl dX9_drain_61 rfl ?_
        exact hret _ _ _ _ _ dX9_drain_62 ⟨by unfold gs_drain; rw [if_pos c7, hcl], hJ.fin, rfl⟩
      | succ v ih =>
        intro hv J hJ hd
        rw [nI_pred v]
        have hJ1 := hJ.put (Or.inr rfl) (nI v)
        have e77 : bq_sr J 75 (upd (J 75) 17 (nI v)) 77 = I 77 := hJ1.1.2.2 77 (by decide) (by decide) (by decide)
        have ew : bq_sr J 75 (upd (J 75) 17 (nI v)) 75 17 = nI v := by rw [bq_sr_s, pk_us]
        have ed : bq_sr J 75 (upd (J 75) 17 (nI v)) 75 16 = I 77 4 := by rw [bq_sr_s, pk_un (by decide)]; exact hd
        refine bq_iload_n (q := 23) G rfl dX9_drain_22 rfl ?_
        refine bq_if_lt_f (q := 26) (t := 61) G dX9_drain_23 rfl (by decide) (nI_pos (by omega)) ?_
        refine bq_aload_n (q := 27) G rfl dX9_drain_26 rfl ?_
        refine bq_iload_n (q := 28) G rfl dX9_drain_27 rfl ?_
        refine bq_puti (q := 31) G dX9_drain_28 rfl fl_X9_111 (by first | assumption | exact ⟨Nat.le_of_ble_eq_true rfl, rfl⟩) rfl rfl ?_
        generalize bq_sr J 75 (upd (J 75) 17 (nI v)) = K at hJ1 e77 ew ed ⊢
        refine bq_aload_n (q := 32) G rfl dX9_drain_31 rfl ?_
        refine bq_iload_n (q := 33) G rfl dX9_drain_32 rfl ?_
        refine bq_callvI (q := 36) G dX9_drain_33 rfl cl_X9_147 (c_X9_highest (m := m) (by rw [e77]; exact hA) (by omega)) rfl (by first | assumption | exact ⟨Nat.le_of_ble_eq_true rfl, rfl⟩) rfl ⟨Nat.le_of_ble_eq_true rfl, Nat.le_of_ble_eq_true rfl⟩ (Nat.le_of_ble_eq_true rfl) ⟨Nat.le_of_ble_eq_true rfl, Nat.le_of_ble_eq_true rfl⟩ (fun r33 I33 L33 h33 => ?_)
        obtain ⟨e1, e2, rfl⟩ := h33
        rw [ew, ed, e77, hJ1.2] at e1
        have e3 : I33 77 = I 77 := by rw [e2.2.2 77 (by decide) (by decide), e77]
        have hl := hJ1.lets e2
        have hd2 : bq_sr I33 79 (gs_cp 59 (I33 84) (I33 79)) 75 16 = I 77 4 := by rw [bq_sr_n (by decide), e2.2.1.1, ed]
        have e9 : 21 - v = (21 - (v + 1)) + 1 := by omega
        have st : ∀ r : Int32, r = gs_drk (I 77) (I 79) m (21 - v) v → ∀ l2 : Int32, A 0 0 50 [some (.ref (z + 75)), some (.int (nI m)), some (.int l2), some (.int (nI v))] [.int r] 85 (bq_Rf z) I33 L33 := by
          intro r hr l2
          subst hr
          refine bq_istore_n (q := 51) (ls' := [_, _, _, _]) G dX9_drain_50 rfl (by decide) rfl rfl ?_
          refine bq_aload_n (q := 52) G rfl dX9_drain_51 rfl ?_
          refine bq_callv (q := 55) G dX9_drain_52 rfl cl_X9_144 (c_X9_lets) rfl (by first | assumption | exact ⟨Nat.le_of_ble_eq_true rfl, rfl⟩) rfl ⟨Nat.le_of_ble_eq_true rfl, Nat.le_of_ble_eq_true rfl⟩ (Nat.le_of_ble_eq_true rfl) ⟨Nat.le_of_ble_eq_true rfl, Nat.le_of_ble_eq_true rfl⟩ rfl ?_
          refine bq_iinc (q := 58) (ls' := [_, _, _, _]) G dX9_drain_55 rfl rfl (bq_m1 _) (by decide) rfl rfl ?_
          refine bq_goto (q := 22) G dX9_drain_58 (by decide) ?_
          exact ih (by omega) _ hl hd2
        refine bq_aload_n (q := 37) G rfl dX9_drain_36 rfl ?_
        refine bq_getr (q := 40) G dX9_drain_37 rfl fl_X9_13 (by first | assumption | exact ⟨Nat.le_of_ble_eq_true rfl, rfl⟩) (fun _ _ _ => rfl) (rf_75_3 z) ?_
        refine bq_iconst (q := 41) (v := 3) G (by decide) dX9_drain_40 rfl ?_
        refine bq_iald (q := 42) (b := 3) G dX9_drain_41 rfl (by first | assumption | exact ⟨Nat.le_of_ble_eq_true rfl, rfl⟩) rfl (by first | with_reducible assumption | omega | decide) (by decide) ?_
        refine bq_icmp_gt (t := 49) (q := 45) G dX9_drain_42 (by decide) rfl (fun c42 => ?_) (fun c42 => ?_)
        · rw [e1, e3] at c42
          refine bq_iload_n (q := 50) G rfl dX9_drain_49 rfl ?_
          exact st _ (by rw [e9, gs_drk_s, if_neg (Int32.not_le.mpr c42)]) _
        · rw [e1, e3] at c42
          refine bq_iload_n (q := 46) G rfl dX9_drain_45 rfl ?_
          refine bq_goto (q := 50) G dX9_drain_46 (by decide) ?_
          exact st _ (by rw [e9, gs_drk_s, if_pos (Int32.not_lt.mp c42)]) _
    refine bq_aload_n (q := 13) G rfl dX9_drain_12 rfl ?_
    refine bq_callv (q := 16) G dX9_drain_13 rfl cl_X9_141 (c_holds) rfl (by first | assumption | exact ⟨Nat.le_of_ble_eq_true rfl, rfl⟩) rfl ⟨Nat.le_of_ble_eq_true rfl, Nat.le_of_ble_eq_true rfl⟩ (Nat.le_of_ble_eq_true rfl) ⟨Nat.le_of_ble_eq_true rfl, Nat.le_of_ble_eq_true rfl⟩ rfl ?_
    refine bq_bipush (q := 18) (v := -9) G (by decide) dX9_drain_16 rfl ?_
    refine bq_istore_n (q := 19) (ls' := [_, _, _, _]) G dX9_drain_18 rfl (by decide) rfl rfl ?_
    refine bq_bipush (q := 21) (v := 20) G (by decide) dX9_drain_19 rfl ?_
    refine bq_istore_n (q := 22) (ls' := [_, _, _, _]) G dX9_drain_21 rfl (by decide) rfl rfl ?_
    exact loop 21 (by omega) _ ⟨gs_on1.H I, gs_H79 I⟩ (gs_Hw I)
  · refine bq_iconst (q := 11) (v := -1) G (by decide) dX9_drain_10 rfl ?_
    exact hret _ _ _ _ _ dX9_drain_11 ⟨by unfold gs_drain; rw [if_neg c7], gs_mK.rf I, rfl⟩
