/-! cellar and rate of the model; gcds -/
def gs_inc (k : Int32) : Int64 := if k = 0 then 1 else if k = 1 then 11 else if k = 2 then 101 else if k = 3 then 1011 else if k = 4 then 10101 else 100001
def gs_rate (T S : Nat → Int32) (k : Int32) (b : Nat) : Int32 := if k = 0 then S (3 + b) else if k = 1 then S (3 + b) + S (11 + b) else if k = 2 then S (3 + b) - S (19 + b) else if k = 3 then 2 * (S (3 + b) + S (11 + b)) else if k = 4 then (S (3 + b) - S (19 + b)) + nI b else S (3 + b) + S 1 / T 1
/-- the model's cells behind a text that was read -/
def gs_CEL (I J : bq_IR) (D : Nat → Int32) (m : Nat) : Prop := (J 77 = gs_cp 32 D (I 77) ∧ J 79 = gs_beg (gs_cp 32 D (I 77)) m (I 79) ∧ J 82 0 = 0 ∧ J 82 1 = 0 ∧ J 75 7 = 0 ∧ J 75 11 = 0 ∧ J 75 2 = 0) ∧ ∀ x, x ≠ 75 → x ≠ 77 → x ≠ 78 → x ≠ 79 → x ≠ 82 → J x = I x
set_option maxHeartbeats 1000000 in
set_option maxRecDepth 100000 in
theorem c_X9_cellar {z : Nat} {I : bq_IR} {L : bq_LR} {t : Nat} (ht : I 75 2 = nI t) (ht2 : t ≤ 200) : bq_FI MX9_cellar z [.ref (z + 75)] 85 (bq_Rf z) I L (fun r K L' => (match rd_all t (I 76) (t + 1) 0 0 (rd_D0 (I 78)) with | .inl s => r = -10 - nI s ∧ (∀ j, (j < 12 ∨ 15 < j) → K 75 j = I 75 j) ∧ (∀ x, x ≠ 75 → x ≠ 78 → K x = I x) | .inr D => r = D 6 ∧ ∃ m, rd_ok D m ∧ gs_CEL I K D m) ∧ L' = L) := by
  refine bq_FIof [some (.ref (z + 75))] rfl (Nat.le_of_ble_eq_true rfl) (by decide) rfl (fun _ _ _ _ => rfl) ?_
  intro A G hret
  have G : bq_Cx cX9_cellar RX9 1 z (bq_rm MX9_cellar 0 0) "cellar" A := G
  refine bq_aload_n (q := 1) G rfl dX9_cellar_0 rfl ?_
  refine bq_callvI (q := 4) G dX9_cellar_1 rfl cl_X9_38 (c_X9_reads ht ht2) rfl (by first | assumption | exact ⟨Nat.le_of_ble_eq_true rfl, rfl⟩) rfl ⟨Nat.le_of_ble_eq_true rfl, Nat.le_of_ble_eq_true rfl⟩ (Nat.le_of_ble_eq_true rfl) ⟨Nat.le_of_ble_eq_true rfl, Nat.le_of_ble_eq_true rfl⟩ (fun r1 I1 L1 h1 => ?_)
  obtain ⟨h, f1, f2, rfl⟩ := h1
  cases e : rd_all t (I 76) (t + 1) 0 0 (rd_D0 (I 78)) with
  | inl s =>
    rw [e] at h hret
    obtain ⟨rfl, h⟩ := h
    refine bq_if_ne_f (q := 7) (t := 15) G dX9_cellar_4 rfl (by decide) rfl ?_
    refine bq_bipush (q := 9) (v := -10) G (by decide) dX9_cellar_7 rfl ?_
    refine bq_aload_n (q := 10) G rfl dX9_cellar_9 rfl ?_
    refine bq_geti (q := 13) G dX9_cellar_10 rfl fl_X9_64 (by first | assumption | exact ⟨Nat.le_of_ble_eq_true rfl, rfl⟩) rfl ?_
    refine bq_isub (q := 14) G dX9_cellar_13 rfl ?_
    exact hret _ _ _ _ _ dX9_cellar_14 ⟨⟨by rw [h], f1, f2⟩, rfl⟩
  | inr D =>
    rw [e] at h hret
    obtain ⟨rfl, h⟩ := h
    obtain ⟨m, hm⟩ := rd_all_ok _ _ _ _ _ (Nat.zero_le t) (rd_ok0 _) e
    have hA : ¬ I1 78 1 = 0 := fun h0 => by
      rw [h] at h0
      have := hm.1.2.1.1
      rw [h0] at this
      exact absurd this (by decide)
    refine bq_if_ne_t (t := 15) G dX9_cellar_4 (by decide) (by decide) ?_
    refine bq_aload_n (q := 16) G rfl dX9_cellar_15 rfl ?_
    refine bq_callv (q := 19) G dX9_cellar_16 rfl cl_X9_42 (c_X9_tells hA (by rw [h]; exact hm.2.1.1) hm.2.1.2) rfl (by first | assumption | exact ⟨Nat.le_of_ble_eq_true rfl, rfl⟩) rfl ⟨Nat.le_of_ble_eq_true rfl, Nat.le_of_ble_eq_true rfl⟩ (Nat.le_of_ble_eq_true rfl) ⟨Nat.le_of_ble_eq_true rfl, Nat.le_of_ble_eq_true rfl⟩ rfl ?_
    refine bq_aload_n (q := 20) G rfl dX9_cellar_19 rfl ?_
    refine bq_iconst (q := 21) (v := 0) G (by decide) dX9_cellar_20 rfl ?_
    refine bq_puti (q := 24) G dX9_cellar_21 rfl fl_X9_53 (by first | assumption | exact ⟨Nat.le_of_ble_eq_true rfl, rfl⟩) rfl rfl ?_
    refine bq_aload_n (q := 25) G rfl dX9_cellar_24 rfl ?_
    refine bq_getr (q := 28) G dX9_cellar_25 rfl fl_X9_13 (by first | assumption | exact ⟨Nat.le_of_ble_eq_true rfl, rfl⟩) (fun _ _ _ => rfl) (rf_75_3 z) ?_
    refine bq_bipush (q := 30) (v := 6) G (by decide) dX9_cellar_28 rfl ?_
    refine bq_iald (q := 31) (b := 6) G dX9_cellar_30 rfl (by first | assumption | exact ⟨Nat.le_of_ble_eq_true rfl, rfl⟩) rfl (by first | with_reducible assumption | omega | decide) (by decide) ?_
    refine hret _ _ _ _ _ dX9_cellar_31 ⟨⟨?_, m, hm, ⟨?_, ?_, ?_, ?_, ?_, ?_, ?_⟩, fun x x1 x2 x3 x4 x5 => ?_⟩, rfl⟩
    · rw [bq_sr_n (by decide), bq_sr_n (by decide), bq_sr_n (by decide), bq_sr_n (by decide), bq_sr_s, gs_cp_lt (by decide), h]
    · rw [bq_sr_n (by decide), bq_sr_n (by decide), bq_sr_n (by decide), bq_sr_n (by decide), bq_sr_s, h, f2 77 (by decide) (by decide)]
    · rw [bq_sr_n (by decide), bq_sr_n (by decide), bq_sr_n (by decide), bq_sr_s, h, f2 77 (by decide) (by decide), f2 79 (by decide) (by decide)]
    · rw [bq_sr_n (by decide), bq_sr_s, pk_un (by decide), pk_us]
    · rw [bq_sr_n (by decide), bq_sr_s, pk_us]
    · rw [bq_sr_s, pk_un (by decide), bq_sr_n (by decide), bq_sr_s, pk_un (by decide), pk_us]
    · rw [bq_sr_s, pk_un (by decide), bq_sr_n (by decide), bq_sr_s, pk_us]
    · rw [bq_sr_s, pk_us]
    · rw [bq_sr_n x1, bq_sr_n x5, bq_sr_n x1, bq_sr_n x4, bq_sr_n x2]; exact f2 x x1 x3
set_option maxHeartbeats 1000000 in
set_option maxRecDepth 100000 in
theorem c_X9_rate {z : Nat} {I : bq_IR} {L : bq_LR} {c b : Int32} (hA : ¬ I 77 1 = 0) : bq_FI MX9_rate z [.ref (z + 75), .int c, .int b] 85 (bq_Rf z) I L (fun r K L' => K = I ∧ ((¬ ((0 ≤ c ∧ c ≤ 5) ∧ 0 ≤ b ∧ b ≤ 7) ∧ r = -1000000 ∧ L' = L) ∨ (∃ k : Nat, k < 8 ∧ b = nI k ∧ (0 ≤ c ∧ c ≤ 5) ∧ r = gs_rate (I 77) (I 79) c k ∧ L' = bq_sr L 75 (vp_updL (L 75) 0 (L 75 0 + gs_inc c))))) := by
  refine bq_FIof [some (.ref (z + 75)), some (.int c), some (.int b), none, none, none] rfl (Nat.le_of_ble_eq_true rfl) (by decide) rfl (fun _ _ _ _ => rfl) ?_
  intro A G hret
  have G : bq_Cx cX9_rate RX9 6 z (bq_rm MX9_rate 0 0) "rate" A := G
  refine bq_iload_n (q := 1) G rfl dX9_rate_0 rfl ?_
  refine bq_iconst (q := 2) (v := 0) G (by decide) dX9_rate_1 rfl ?_
  refine bq_iconst (q := 3) (v := 5) G (by decide) dX9_rate_2 rfl ?_
  refine bq_calls (q := 6) G dX9_rate_3 rfl cl_X9_45 (c_X9_in) rfl rfl ⟨Nat.le_of_ble_eq_true rfl, Nat.le_of_ble_eq_true rfl⟩ (Nat.le_of_ble_eq_true rfl) ⟨Nat.le_of_ble_eq_true rfl, Nat.le_of_ble_eq_true rfl⟩ rfl ?_
  first | refine bq_ifb_eq (t := 16) (q := 9) G dX9_rate_6 (by decide) rfl (fun c6 => ?_) (fun c6 => ?_) | refine bq_if_eq (t := 16) (q := 9) G dX9_rate_6 (by decide) rfl (fun c6 => ?_) (fun c6 => ?_)
  · refine bq_ldc (q := 18) G wk_X9_163 dX9_rate_16 rfl ?_
    exact hret _ _ _ _ _ dX9_rate_18 ⟨rfl, Or.inl ⟨fun h => c6 h.1, rfl, rfl⟩⟩
  · refine bq_iload_n (q := 10) G rfl dX9_rate_9 rfl ?_
    refine bq_calls (q := 13) G dX9_rate_10 rfl cl_X9_49 (c_X9_isNumber) rfl rfl ⟨Nat.le_of_ble_eq_true rfl, Nat.le_of_ble_eq_true rfl⟩ (Nat.le_of_ble_eq_true rfl) ⟨Nat.le_of_ble_eq_true rfl, Nat.le_of_ble_eq_true rfl⟩ rfl ?_
    first | refine bq_ifb_ne (t := 19) (q := 16) G dX9_rate_13 (by decide) rfl (fun c13 => ?_) (fun c13 => ?_) | refine bq_if_ne (t := 19) (q := 16) G dX9_rate_13 (by decide) rfl (fun c13 => ?_) (fun c13 => ?_)
    · obtain ⟨k, hk, rfl⟩ := gs_ik c13
      have fin : ∀ (r : Int32) (L' : bq_LR) (ls : bq_LS), r = gs_rate (I 77) (I 79) c k → L' = bq_sr L 75 (vp_updL (L 75) 0 (L 75 0 + gs_inc c)) → A 0 0 176 ls [.int r] 85 (bq_Rf z) I L' := fun r L' ls h1 h2 => hret _ _ _ _ _ dX9_rate_176 ⟨rfl, Or.inr ⟨k, hk, rfl, c6, h1, h2⟩⟩
      have af : ∀ y : Int64, y = gs_inc c → A 0 0 79 [some (.ref (z + 75)), some (.int c), some (.int (nI k)), none, none, none] [.long y, .long (L 75 0), .ref (z + 75)] 85 (bq_Rf z) I L := by
        intro y hy
        subst hy
        refine bq_ladd (q := 80) G dX9_rate_79 rfl ?_
        refine bq_putl (q := 83) G dX9_rate_80 rfl fl_X9_164 (by first | assumption | exact ⟨Nat.le_of_ble_eq_true rfl, rfl⟩) rfl rfl ?_
        refine bq_aload_n (q := 84) G rfl dX9_rate_83 rfl ?_
        refine bq_getr (q := 87) G dX9_rate_84 rfl fl_X9_19 (by first | assumption | exact ⟨Nat.le_of_ble_eq_true rfl, rfl⟩) (fun _ _ _ => rfl) (rf_75_5 z) ?_
        refine bq_iconst (q := 88) (v := 3) G (by decide) dX9_rate_87 rfl ?_
        refine bq_iload_n (q := 89) G rfl dX9_rate_88 rfl ?_
        refine bq_iadd (q := 90) G dX9_rate_89 rfl ?_
        refine bq_iald (q := 91) G dX9_rate_90 rfl (by first | assumption | exact ⟨Nat.le_of_ble_eq_true rfl, rfl⟩) (bq_ixa (a := 3) rfl (by first | with_reducible assumption | with_reducible exact rfl | exact rfl)) (by first | with_reducible assumption | omega | decide) (by decide) ?_
        refine bq_istore_n (q := 92) (ls' := [_, _, _, _, _, _]) G dX9_rate_91 rfl (by decide) rfl rfl ?_
        refine bq_iload_n (q := 93) G rfl dX9_rate_92 rfl ?_
        refine bq_aload_n (q := 94) G rfl dX9_rate_93 rfl ?_
        refine bq_getr (q := 97) G dX9_rate_94 rfl fl_X9_19 (by first | assumption | exact ⟨Nat.le_of_ble_eq_true rfl, rfl⟩) (fun _ _ _ => rfl) (rf_75_5 z) ?_
        refine bq_bipush (q := 99) (v := 11) G (by decide) dX9_rate_97 rfl ?_
        refine bq_iload_n (q := 100) G rfl dX9_rate_99 rfl ?_
        refine bq_iadd (q := 101) G dX9_rate_100 rfl ?_
        refine bq_iald (q := 102) G dX9_rate_101 rfl (by first | assumption | exact ⟨Nat.le_of_ble_eq_true rfl, rfl⟩) (bq_ixa (a := 11) rfl (by first | with_reducible assumption | with_reducible exact rfl | exact rfl)) (by first | with_reducible assumption | omega | decide) (by decide) ?_
        refine bq_iadd (q := 103) G dX9_rate_102 rfl ?_
        refine bq_istore (q := 105) (ls' := [_, _, _, _, _, _]) G dX9_rate_103 rfl (by decide) rfl rfl ?_
        refine bq_iload_n (q := 106) G rfl dX9_rate_105 rfl ?_
        refine bq_aload_n (q := 107) G rfl dX9_rate_106 rfl ?_
        refine bq_getr (q := 110) G dX9_rate_107 rfl fl_X9_19 (by first | assumption | exact ⟨Nat.le_of_ble_eq_true rfl, rfl⟩) (fun _ _ _ => rfl) (rf_75_5 z) ?_
        refine bq_bipush (q := 112) (v := 19) G (by decide) dX9_rate_110 rfl ?_
        refine bq_iload_n (q := 113) G rfl dX9_rate_112 rfl ?_
        refine bq_iadd (q := 114) G dX9_rate_113 rfl ?_
        refine bq_iald (q := 115) G dX9_rate_114 rfl (by first | assumption | exact ⟨Nat.le_of_ble_eq_true rfl, rfl⟩) (bq_ixa (a := 19) rfl (by first | with_reducible assumption | with_reducible exact rfl | exact rfl)) (by first | with_reducible assumption | omega | decide) (by decide) ?_
        refine bq_isub (q := 116) G dX9_rate_115 rfl ?_
        refine bq_istore (q := 118) (ls' := [_, _, _, _, _, _]) G dX9_rate_116 rfl (by decide) rfl rfl ?_
        refine bq_iload_n (q := 119) G rfl dX9_rate_118 rfl ?_
        first | refine bq_ifb_ne (t := 126) (q := 122) G dX9_rate_119 (by decide) rfl (fun c119 => ?_) (fun c119 => ?_) | refine bq_if_ne (t := 126) (q := 122) G dX9_rate_119 (by decide) rfl (fun c119 => ?_) (fun c119 => ?_)
        · refine bq_iload_n (q := 127) G rfl dX9_rate_126 rfl ?_
          refine bq_iconst (q := 128) (v := 1) G (by decide) dX9_rate_127 rfl ?_
          refine bq_icmp_ne (t := 136) (q := 131) G dX9_rate_128 (by decide) rfl (fun c128 => ?_) (fun c128 => ?_)
          · refine bq_iload_n (q := 137) G rfl dX9_rate_136 rfl ?_
            refine bq_iconst (q := 138) (v := 2) G (by decide) dX9_rate_137 rfl ?_
            refine bq_icmp_ne (t := 146) (q := 141) G dX9_rate_138 (by decide) rfl (fun c138 => ?_) (fun c138 => ?_)
            · refine bq_iload_n (q := 147) G rfl dX9_rate_146 rfl ?_
              refine bq_iconst (q := 148) (v := 3) G (by decide) dX9_rate_147 rfl ?_
              refine bq_icmp_ne (t := 158) (q := 151) G dX9_rate_148 (by decide) rfl (fun c148 => ?_) (fun c148 => ?_)
              · refine bq_iload_n (q := 159) G rfl dX9_rate_158 rfl ?_
                refine bq_iconst (q := 160) (v := 4) G (by decide) dX9_rate_159 rfl ?_
                refine bq_icmp_ne (t := 170) (q := 163) G dX9_rate_160 (by decide) rfl (fun c160 => ?_) (fun c160 => ?_)
                · refine bq_iload_n (q := 171) G rfl dX9_rate_170 rfl ?_
                  refine bq_aload_n (q := 172) G rfl dX9_rate_171 rfl ?_
                  refine bq_callv (q := 175) G dX9_rate_172 rfl cl_X9_88 (c_X9_high hA) rfl (by first | assumption | exact ⟨Nat.le_of_ble_eq_true rfl, rfl⟩) rfl ⟨Nat.le_of_ble_eq_true rfl, Nat.le_of_ble_eq_true rfl⟩ (Nat.le_of_ble_eq_true rfl) ⟨Nat.le_of_ble_eq_true rfl, Nat.le_of_ble_eq_true rfl⟩ rfl ?_
                  refine bq_iadd (q := 176) G dX9_rate_175 rfl ?_
                  exact fin _ _ _ (by unfold gs_rate; rw [if_neg c119, if_neg c128, if_neg c138, if_neg c148, if_neg c160]) rfl
                · refine bq_iload (q := 165) G rfl dX9_rate_163 rfl ?_
                  refine bq_iload_n (q := 166) G rfl dX9_rate_165 rfl ?_
                  refine bq_iadd (q := 167) G dX9_rate_166 rfl ?_
                  refine bq_goto (q := 176) G dX9_rate_167 (by decide) ?_
                  exact fin _ _ _ (by unfold gs_rate; rw [if_neg c119, if_neg c128, if_neg c138, if_neg c148, if_pos c160]) rfl
              · refine bq_iconst (q := 152) (v := 2) G (by decide) dX9_rate_151 rfl ?_
                refine bq_iload (q := 154) G rfl dX9_rate_152 rfl ?_
                refine bq_imul (q := 155) G dX9_rate_154 rfl ?_
                refine bq_goto (q := 176) G dX9_rate_155 (by decide) ?_
                exact fin _ _ _ (by unfold gs_rate; rw [if_neg c119, if_neg c128, if_neg c138, if_pos c148]) rfl
            · refine bq_iload (q := 143) G rfl dX9_rate_141 rfl ?_
              refine bq_goto (q := 176) G dX9_rate_143 (by decide) ?_
              exact fin _ _ _ (by unfold gs_rate; rw [if_neg c119, if_neg c128, if_pos c138]) rfl
          · refine bq_iload (q := 133) G rfl dX9_rate_131 rfl ?_
            refine bq_goto (q := 176) G dX9_rate_133 (by decide) ?_
            exact fin _ _ _ (by unfold gs_rate; rw [if_neg c119, if_pos c128]) rfl
        · refine bq_iload_n (q := 123) G rfl dX9_rate_122 rfl ?_
          refine bq_goto (q := 176) G dX9_rate_123 (by decide) ?_
          exact fin _ _ _ (by unfold gs_rate; rw [if_pos c119]) rfl
      refine bq_aload_n (q := 20) G rfl dX9_rate_19 rfl ?_
      refine bq_dup (q := 21) G rfl dX9_rate_20 rfl ?_
      refine bq_getl (q := 24) G dX9_rate_21 rfl fl_X9_164 (by first | assumption | exact ⟨Nat.le_of_ble_eq_true rfl, rfl⟩) rfl ?_
      refine bq_iload_n (q := 25) G rfl dX9_rate_24 rfl ?_
      first | refine bq_ifb_ne (t := 32) (q := 28) G dX9_rate_25 (by decide) rfl (fun c25 => ?_) (fun c25 => ?_) | refine bq_if_ne (t := 32) (q := 28) G dX9_rate_25 (by decide) rfl (fun c25 => ?_) (fun c25 => ?_)
      · refine bq_iload_n (q := 33) G rfl dX9_rate_32 rfl ?_
        refine bq_iconst (q := 34) (v := 1) G (by decide) dX9_rate_33 rfl ?_
        refine bq_icmp_ne (t := 43) (q := 37) G dX9_rate_34 (by decide) rfl (fun c34 => ?_) (fun c34 => ?_)
        · refine bq_iload_n (q := 44) G rfl dX9_rate_43 rfl ?_
          refine bq_iconst (q := 45) (v := 2) G (by decide) dX9_rate_44 rfl ?_
          refine bq_icmp_ne (t := 54) (q := 48) G dX9_rate_45 (by decide) rfl (fun c45 => ?_) (fun c45 => ?_)
          · refine bq_iload_n (q := 55) G rfl dX9_rate_54 rfl ?_
            refine bq_iconst (q := 56) (v := 3) G (by decide) dX9_rate_55 rfl ?_
            refine bq_icmp_ne (t := 65) (q := 59) G dX9_rate_56 (by decide) rfl (fun c56 => ?_) (fun c56 => ?_)
            · refine bq_iload_n (q := 66) G rfl dX9_rate_65 rfl ?_
              refine bq_iconst (q := 67) (v := 4) G (by decide) dX9_rate_66 rfl ?_
              refine bq_icmp_ne (t := 76) (q := 70) G dX9_rate_67 (by decide) rfl (fun c67 => ?_) (fun c67 => ?_)
              · refine bq_ldc2 (q := 79) G wk_X9_176 dX9_rate_76 rfl ?_
                exact af _ (by unfold gs_inc; rw [if_neg c25, if_neg c34, if_neg c45, if_neg c56, if_neg c67])
              · refine bq_ldc2 (q := 73) G wk_X9_174 dX9_rate_70 rfl ?_
                refine bq_goto (q := 79) G dX9_rate_73 (by decide) ?_
                exact af _ (by unfold gs_inc; rw [if_neg c25, if_neg c34, if_neg c45, if_neg c56, if_pos c67])
            · refine bq_ldc2 (q := 62) G wk_X9_172 dX9_rate_59 rfl ?_
              refine bq_goto (q := 79) G dX9_rate_62 (by decide) ?_
              exact af _ (by unfold gs_inc; rw [if_neg c25, if_neg c34, if_neg c45, if_pos c56])
          · refine bq_ldc2 (q := 51) G wk_X9_170 dX9_rate_48 rfl ?_
            refine bq_goto (q := 79) G dX9_rate_51 (by decide) ?_
            exact af _ (by unfold gs_inc; rw [if_neg c25, if_neg c34, if_pos c45])
        · refine bq_ldc2 (q := 40) G wk_X9_168 dX9_rate_37 rfl ?_
          refine bq_goto (q := 79) G dX9_rate_40 (by decide) ?_
          exact af _ (by unfold gs_inc; rw [if_neg c25, if_pos c34])
      · refine bq_lconst (q := 29) (v := 1) G (by decide) dX9_rate_28 rfl ?_
        refine bq_goto (q := 79) G dX9_rate_29 (by decide) ?_
        exact af _ (by unfold gs_inc; rw [if_pos c25])
    · refine bq_ldc (q := 18) G wk_X9_163 dX9_rate_16 rfl ?_
      exact hret _ _ _ _ _ dX9_rate_18 ⟨rfl, Or.inl ⟨fun h => c13 h.2, rfl, rfl⟩⟩
