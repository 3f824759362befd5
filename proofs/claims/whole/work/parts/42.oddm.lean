/-- how often a broom comes: a number -/
theorem od_times {S : Nat → Int32} (hS : gs_Ok S) {q v : Nat} (hq : q < 8) (ht : S (51 + q) = 1) (hv : v ≤ 40) : ∃ t : Nat, t ≤ 40 ∧ gs_com S q (nI v) = nI t := by
  unfold gs_com
  generalize hf : (if 1 < S (19 + q) then S (19 + q) else 1) = f
  have hf1 : 1 ≤ f := by
    rw [← hf]
    split
    · rename_i h; exact Int32.le_of_lt h
    · decide
  by_cases h : nI v < f
  · rw [if_pos h]; exact ⟨0, by omega, rfl⟩
  · rw [if_neg h]
    have hfv := Int32.not_lt.mp h
    have h40 : nI v ≤ 40 := nI_le (b := 40) hv (by decide)
    obtain ⟨g, hg, rfl⟩ := gs_rng (M := 40) (k := 40) (by decide) ⟨Int32.le_trans (by decide) hf1, Int32.le_trans hfv h40⟩
    have h2 := (hS.2 q hq).2.1 ht
    obtain ⟨p, hp, ep⟩ := gs_rng (M := 40) (k := 40) (by decide) ⟨Int32.le_trans (show (0 : Int32) ≤ 1 by decide) h2.2.1, h2.2.2⟩
    have hgv : g ≤ v := (nI_leI (by omega) (by omega)).mp hfv
    have hp1 : 1 ≤ p := by
      have := h2.2.1
      rw [ep, show (1 : Int32) = nI 1 from rfl] at this
      exact (nI_leI (by omega) (by omega)).mp this
    rw [ep, pk_sub hgv, pk_div (by omega) hp1 (by omega), show (1 : Int32) = nI 1 from rfl, nI_add]
    have : (v - g) / p ≤ v - g := Nat.div_le_self _ _
    have hg1 : 1 ≤ g := by
      rw [show (1 : Int32) = nI 1 from rfl] at hf1
      exact (nI_leI (by omega) (by omega)).mp hf1
    exact ⟨1 + (v - g) / p, by omega, rfl⟩
theorem od_first (x : Int32) : (if x < 1 then (1 : Int32) else x) = if 1 < x then x else 1 := by
  by_cases h : 1 < x
  · rw [if_pos h, if_neg (fun h2 => by simp only [Int32.lt_iff_toInt_lt] at *; omega)]
  · rw [if_neg h]
    split
    · rfl
    · rename_i h2; exact Int32.le_antisymm (Int32.not_lt.mp h) (Int32.not_lt.mp h2)
def gs_oddv (p t k : Nat) (c : Int32) : Int32 := if c = 0 then nI (od_a p t k (2 ^ t) / fr_g (od_a p t k (2 ^ t) : Int) (10 ^ t)) else nI (10 ^ t / fr_g (od_a p t k (2 ^ t) : Int) (10 ^ t))
/-- x is what odds answers -/
def gs_odds (S : Nat → Int32) (b p m k c x : Int32) : Prop := (¬ (((0 ≤ b ∧ b ≤ 7) ∧ S (51 + b.toNatClampNeg) = 1) ∧ (0 ≤ p ∧ p ≤ 10) ∧ (0 ≤ m ∧ m ≤ 40) ∧ (0 ≤ k ∧ k ≤ 9) ∧ 0 ≤ c ∧ c ≤ 1) ∧ x = -1) ∨ ∃ q : Nat, (q < 8 ∧ b = nI q ∧ S (51 + q) = 1 ∧ (0 ≤ p ∧ p ≤ 10) ∧ (0 ≤ m ∧ m ≤ 40) ∧ (0 ≤ k ∧ k ≤ 9) ∧ 0 ≤ c ∧ c ≤ 1) ∧ ((9 < gs_com S q m ∧ x = -1000000) ∨ (¬ 9 < gs_com S q m ∧ x = gs_oddv p.toNatClampNeg (gs_com S q m).toNatClampNeg k.toNatClampNeg c))
set_option maxHeartbeats 1000000 in
set_option maxRecDepth 100000 in
theorem c_X9_odds {z : Nat} {I : bq_IR} {L : bq_LR} {b p m k c : Int32} (hS : gs_Ok (I 79)) : bq_FI MX9_odds z [.ref (z + 75), .int b, .int p, .int m, .int k, .int c] 85 (bq_Rf z) I L (fun r J L' => gs_odds (I 79) b p m k c r ∧ J = I ∧ L' = L) := by
  refine bq_FIof [some (.ref (z + 75)), some (.int b), some (.int p), some (.int m), some (.int k), some (.int c), none, none, none, none, none, none, none, none, none] rfl (Nat.le_of_ble_eq_true rfl) (by decide) rfl (fun _ _ _ _ => rfl) ?_
  intro A G hret
  have G : bq_Cx cX9_odds RX9 15 z (bq_rm MX9_odds 0 0) "odds" A := G
  refine bq_aload_n (q := 1) G rfl dX9_odds_0 rfl ?_
  refine bq_iload_n (q := 2) G rfl dX9_odds_1 rfl ?_
  refine bq_callv (q := 5) G dX9_odds_2 rfl cl_X9_129 (c_X9_isThere) rfl (by first | assumption | exact ⟨Nat.le_of_ble_eq_true rfl, rfl⟩) rfl ⟨Nat.le_of_ble_eq_true rfl, Nat.le_of_ble_eq_true rfl⟩ (Nat.le_of_ble_eq_true rfl) ⟨Nat.le_of_ble_eq_true rfl, Nat.le_of_ble_eq_true rfl⟩ rfl ?_
  first | refine bq_ifb_eq (t := 49) (q := 8) G dX9_odds_5 (by decide) rfl (fun c5 => ?_) (fun c5 => ?_) | refine bq_if_eq (t := 49) (q := 8) G dX9_odds_5 (by decide) rfl (fun c5 => ?_) (fun c5 => ?_)
  · refine bq_iconst (q := 50) (v := -1) G (by decide) dX9_odds_49 rfl ?_
    exact hret _ _ _ _ _ dX9_odds_50 ⟨Or.inl ⟨fun h => c5 h.1, rfl⟩, rfl, rfl⟩
  · refine bq_iload_n (q := 9) G rfl dX9_odds_8 rfl ?_
    refine bq_iconst (q := 10) (v := 0) G (by decide) dX9_odds_9 rfl ?_
    refine bq_bipush (q := 12) (v := 10) G (by decide) dX9_odds_10 rfl ?_
    refine bq_calls (q := 15) G dX9_odds_12 rfl cl_X9_45 (c_X9_in) rfl rfl ⟨Nat.le_of_ble_eq_true rfl, Nat.le_of_ble_eq_true rfl⟩ (Nat.le_of_ble_eq_true rfl) ⟨Nat.le_of_ble_eq_true rfl, Nat.le_of_ble_eq_true rfl⟩ rfl ?_
    first | refine bq_ifb_eq (t := 49) (q := 18) G dX9_odds_15 (by decide) rfl (fun c15 => ?_) (fun c15 => ?_) | refine bq_if_eq (t := 49) (q := 18) G dX9_odds_15 (by decide) rfl (fun c15 => ?_) (fun c15 => ?_)
    · refine bq_iconst (q := 50) (v := -1) G (by decide) dX9_odds_49 rfl ?_
      exact hret _ _ _ _ _ dX9_odds_50 ⟨Or.inl ⟨fun h => c15 h.2.1, rfl⟩, rfl, rfl⟩
    · refine bq_iload_n (q := 19) G rfl dX9_odds_18 rfl ?_
      refine bq_iconst (q := 20) (v := 0) G (by decide) dX9_odds_19 rfl ?_
      refine bq_bipush (q := 22) (v := 40) G (by decide) dX9_odds_20 rfl ?_
      refine bq_calls (q := 25) G dX9_odds_22 rfl cl_X9_45 (c_X9_in) rfl rfl ⟨Nat.le_of_ble_eq_true rfl, Nat.le_of_ble_eq_true rfl⟩ (Nat.le_of_ble_eq_true rfl) ⟨Nat.le_of_ble_eq_true rfl, Nat.le_of_ble_eq_true rfl⟩ rfl ?_
      first | refine bq_ifb_eq (t := 49) (q := 28) G dX9_odds_25 (by decide) rfl (fun c25 => ?_) (fun c25 => ?_) | refine bq_if_eq (t := 49) (q := 28) G dX9_odds_25 (by decide) rfl (fun c25 => ?_) (fun c25 => ?_)
      · refine bq_iconst (q := 50) (v := -1) G (by decide) dX9_odds_49 rfl ?_
        exact hret _ _ _ _ _ dX9_odds_50 ⟨Or.inl ⟨fun h => c25 h.2.2.1, rfl⟩, rfl, rfl⟩
      · refine bq_iload (q := 30) G rfl dX9_odds_28 rfl ?_
        refine bq_iconst (q := 31) (v := 0) G (by decide) dX9_odds_30 rfl ?_
        refine bq_bipush (q := 33) (v := 9) G (by decide) dX9_odds_31 rfl ?_
        refine bq_calls (q := 36) G dX9_odds_33 rfl cl_X9_45 (c_X9_in) rfl rfl ⟨Nat.le_of_ble_eq_true rfl, Nat.le_of_ble_eq_true rfl⟩ (Nat.le_of_ble_eq_true rfl) ⟨Nat.le_of_ble_eq_true rfl, Nat.le_of_ble_eq_true rfl⟩ rfl ?_
        first | refine bq_ifb_eq (t := 49) (q := 39) G dX9_odds_36 (by decide) rfl (fun c36 => ?_) (fun c36 => ?_) | refine bq_if_eq (t := 49) (q := 39) G dX9_odds_36 (by decide) rfl (fun c36 => ?_) (fun c36 => ?_)
        · refine bq_iconst (q := 50) (v := -1) G (by decide) dX9_odds_49 rfl ?_
          exact hret _ _ _ _ _ dX9_odds_50 ⟨Or.inl ⟨fun h => c36 h.2.2.2.1, rfl⟩, rfl, rfl⟩
        · refine bq_iload (q := 41) G rfl dX9_odds_39 rfl ?_
          refine bq_iconst (q := 42) (v := 0) G (by decide) dX9_odds_41 rfl ?_
          refine bq_iconst (q := 43) (v := 1) G (by decide) dX9_odds_42 rfl ?_
          refine bq_calls (q := 46) G dX9_odds_43 rfl cl_X9_45 (c_X9_in) rfl rfl ⟨Nat.le_of_ble_eq_true rfl, Nat.le_of_ble_eq_true rfl⟩ (Nat.le_of_ble_eq_true rfl) ⟨Nat.le_of_ble_eq_true rfl, Nat.le_of_ble_eq_true rfl⟩ rfl ?_
          first | refine bq_ifb_ne (t := 51) (q := 49) G dX9_odds_46 (by decide) rfl (fun c46 => ?_) (fun c46 => ?_) | refine bq_if_ne (t := 51) (q := 49) G dX9_odds_46 (by decide) rfl (fun c46 => ?_) (fun c46 => ?_)
          · obtain ⟨q, hq, rfl, h51⟩ := gs_th_ex (S := I 79) c5
            obtain ⟨p, hp, rfl⟩ := gs_rng (M := 10) (k := 10) (by decide) c15
            obtain ⟨v, hv, rfl⟩ := gs_rng (M := 40) (k := 40) (by decide) c25
            obtain ⟨κ, hκ, rfl⟩ := gs_rng (M := 9) (k := 9) (by decide) c36
            obtain ⟨t, ht, et⟩ := od_times hS hq h51 hv
            have pc := (hS.2 q hq).2.1 h51
            have post : ∀ x : Int32, ((9 < nI t ∧ x = -1000000) ∨ (¬ 9 < nI t ∧ x = gs_oddv p t κ c)) → gs_odds (I 79) (nI q) (nI p) (nI v) (nI κ) c x := by
              intro x h
              refine Or.inr ⟨q, ⟨hq, rfl, h51, c15, c25, c36, c46⟩, ?_⟩
              rw [et, nI_clamp (n := p) (by omega), nI_clamp (n := t) (by omega), nI_clamp (n := κ) (by omega)]
              exact h
            have tm : ∀ (y l6 : Int32), y = nI t → A 0 0 105 [some (.ref (z + 75)), some (.int (nI q)), some (.int (nI p)), some (.int (nI v)), some (.int (nI κ)), some (.int c), some (.int l6), none, none, none, none, none, none, none, none] [.int y] 85 (bq_Rf z) I L := by
              intro y l6 hy
              subst hy
              refine bq_istore (q := 107) (ls' := [_, _, _, _, _, _, _, _, _, _, _, _, _, _, _]) G dX9_odds_105 rfl (by decide) rfl rfl ?_
              refine bq_iload (q := 109) G rfl dX9_odds_107 rfl ?_
              refine bq_bipush (q := 111) (v := 9) G (by decide) dX9_odds_109 rfl ?_
              refine bq_icmp_le (t := 117) (q := 114) G dX9_odds_111 (by decide) rfl (fun c111 => ?_) (fun c111 => ?_)
              · have ht9 : t ≤ 9 := (nI_leI (b := 9) (by omega) (by decide)).mp c111
                have hn9 : ¬ (9 : Int32) < nI t := Int32.not_lt.mpr c111
                -- below
                have lb : ∀ i, i ≤ t → A 0 0 126 [some (.ref (z + 75)), some (.int (nI q)), some (.int (nI p)), some (.int (nI v)), some (.int (nI κ)), some (.int c), some (.int l6), some (.int (nI t)), some (.int 0), some (.int (nI (10 ^ i))), some (.int (nI i)), none, none, none, none] [] 85 (bq_Rf z) I L := by
                  refine bq_down t ?_
                  intro i hi ih
                  rcases Nat.lt_or_ge i t with hi8 | hi8
                  · refine bq_iload (q := 128) G rfl dX9_odds_126 rfl ?_
                    refine bq_iload (q := 130) G rfl dX9_odds_128 rfl ?_
                    refine bq_icmp_ge_f (q := 133) (t := 146) G dX9_odds_130 rfl (by decide) (nI_ge (a := i) (b := t) hi8 (by omega)) ?_
                    refine bq_iload (q := 135) G rfl dX9_odds_133 rfl ?_
                    refine bq_bipush (q := 137) (v := 10) G (by decide) dX9_odds_135 rfl ?_
                    refine bq_imul (q := 138) G dX9_odds_137 rfl ?_
                    refine bq_top (congrArg Value.int (by rw [show (10 : Int32) = nI 10 from rfl, pk_mul, ← Nat.pow_succ])) ?_
                    refine bq_istore (q := 140) (ls' := [_, _, _, _, _, _, _, _, _, _, _, _, _, _, _]) G dX9_odds_138 rfl (by decide) rfl rfl ?_
                    refine bq_iinc (q := 143) (ls' := [_, _, _, _, _, _, _, _, _, _, _, _, _, _, _]) G dX9_odds_140 rfl rfl (by first | exact nI_1 _ | exact pk_m1 _ | rfl) (by decide) rfl rfl ?_
                    refine bq_goto (q := 126) G dX9_odds_143 (by decide) ?_
                    exact ih hi8
                  · have hi9 : i = t := by omega
                    subst hi9
                    -- the sets
                    have ls : ∀ s, s ≤ 2 ^ i → A 0 0 149 [some (.ref (z + 75)), some (.int (nI q)), some (.int (nI p)), some (.int (nI v)), some (.int (nI κ)), some (.int c), some (.int l6), some (.int (nI i)), some (.int (nI (od_a p i κ s))), some (.int (nI (10 ^ i))), some (.int (nI s)), none, none, none, none] [] 85 (bq_Rf z) I L := by
                      have h2t := od_two i (by omega)
                      refine bq_down (2 ^ i) ?_
                      intro s hs ihs
                      rcases Nat.lt_or_ge s (2 ^ i) with hs8 | hs8
                      · have ihs := ihs hs8
                        -- one set
                        have lj : ∀ j, j ≤ i → A 0 0 167 [some (.ref (z + 75)), some (.int (nI q)), some (.int (nI p)), some (.int (nI v)), some (.int (nI κ)), some (.int c), some (.int l6), some (.int (nI i)), some (.int (nI (od_a p i κ s))), some (.int (nI (10 ^ i))), some (.int (nI s)), some (.int (nI (od_i p s j))), some (.int (nI (od_w s j))), some (.int (nI j)), none] [] 85 (bq_Rf z) I L := by
                          refine bq_down i ?_
                          intro j hj ihj
                          rcases Nat.lt_or_ge j i with hj8 | hj8
                          · have ihj := ihj hj8
                            have eb := od_bit s (by omega) j (by omega)
                            have hb2 : od_b s j < 2 := Nat.mod_lt _ (by decide)
                            have b1 : (nI s >>> (nI j &&& 31)) &&& 1 = 1 ↔ od_b s j = 1 := by rw [eb, show (1 : Int32) = nI 1 from rfl]; exact nI_eq (by omega) (by omega)
                            refine bq_iload (q := 169) G rfl dX9_odds_167 rfl ?_
                            refine bq_iload (q := 171) G rfl dX9_odds_169 rfl ?_
                            refine bq_icmp_ge_f (q := 174) (t := 231) G dX9_odds_171 rfl (by decide) (nI_ge (a := j) (b := i) hj8 (by omega)) ?_
                            refine bq_iload (q := 176) G rfl dX9_odds_174 rfl ?_
                            refine bq_iload (q := 178) G rfl dX9_odds_176 rfl ?_
                            refine bq_ishr (q := 179) G dX9_odds_178 rfl ?_
                            refine bq_iconst (q := 180) (v := 1) G (by decide) dX9_odds_179 rfl ?_
                            refine bq_iand (q := 181) G dX9_odds_180 rfl ?_
                            refine bq_iconst (q := 182) (v := 1) G (by decide) dX9_odds_181 rfl ?_
                            refine bq_icmp_ne (t := 189) (q := 185) G dX9_odds_182 (by decide) rfl (fun c182 => ?_) (fun c182 => ?_)
                            · have hb : ¬ od_b s j = 1 := fun h => c182 (b1.mpr h)
                              have e1 : od_i p s (j + 1) = od_i p s j * p := by show od_i p s j * (if od_b s j = 1 then 10 - p else p) = _; rw [if_neg hb]
                              have e2 : od_w s (j + 1) = od_w s j := by show od_w s j + (if od_b s j = 1 then 1 else 0) = _; rw [if_neg hb]; rfl
                              rw [e1, e2] at ihj
                              refine bq_iconst (q := 190) (v := 0) G (by decide) dX9_odds_189 rfl ?_
                              refine bq_istore (q := 192) (ls' := [_, _, _, _, _, _, _, _, _, _, _, _, _, _, _]) G dX9_odds_190 rfl (by decide) rfl rfl ?_
                              refine bq_iload (q := 194) G rfl dX9_odds_192 rfl ?_
                              refine bq_iload (q := 196) G rfl dX9_odds_194 rfl ?_
                              refine bq_if_eq_t (t := 206) G dX9_odds_196 (by decide) rfl ?_
                              refine bq_iload_n (q := 207) G rfl dX9_odds_206 rfl ?_
                              refine bq_imul (q := 208) G dX9_odds_207 rfl ?_
                              refine bq_top (congrArg Value.int (pk_mul _ _)) ?_
                              refine bq_istore (q := 210) (ls' := [_, _, _, _, _, _, _, _, _, _, _, _, _, _, _]) G dX9_odds_208 rfl (by decide) rfl rfl ?_
                              refine bq_iload (q := 212) G rfl dX9_odds_210 rfl ?_
                              refine bq_iload (q := 214) G rfl dX9_odds_212 rfl ?_
                              refine bq_if_eq_t (t := 221) G dX9_odds_214 (by decide) rfl ?_
                              refine bq_iconst (q := 222) (v := 0) G (by decide) dX9_odds_221 rfl ?_
                              refine bq_iadd (q := 223) G dX9_odds_222 rfl ?_
                              refine bq_top (congrArg Value.int (Int32.add_zero _)) ?_
                              refine bq_istore (q := 225) (ls' := [_, _, _, _, _, _, _, _, _, _, _, _, _, _, _]) G dX9_odds_223 rfl (by decide) rfl rfl ?_
                              refine bq_iinc (q := 228) (ls' := [_, _, _, _, _, _, _, _, _, _, _, _, _, _, _]) G dX9_odds_225 rfl rfl (by first | exact nI_1 _ | exact pk_m1 _ | rfl) (by decide) rfl rfl ?_
                              refine bq_goto (q := 167) G dX9_odds_228 (by decide) ?_
                              refine bq_forget G ?_ ihj
                              repeat (first | exact bq_le_0 _ | refine bq_le_n ?_ | refine bq_le_s rfl ?_)
                            · have hb := b1.mp c182
                              have e1 : od_i p s (j + 1) = od_i p s j * (10 - p) := by show od_i p s j * (if od_b s j = 1 then 10 - p else p) = _; rw [if_pos hb]
                              have e2 : od_w s (j + 1) = od_w s j + 1 := by show od_w s j + (if od_b s j = 1 then 1 else 0) = _; rw [if_pos hb]
                              rw [e1, e2] at ihj
                              refine bq_iconst (q := 186) (v := 1) G (by decide) dX9_odds_185 rfl ?_
                              refine bq_goto (q := 190) G dX9_odds_186 (by decide) ?_
                              refine bq_istore (q := 192) (ls' := [_, _, _, _, _, _, _, _, _, _, _, _, _, _, _]) G dX9_odds_190 rfl (by decide) rfl rfl ?_
                              refine bq_iload (q := 194) G rfl dX9_odds_192 rfl ?_
                              refine bq_iload (q := 196) G rfl dX9_odds_194 rfl ?_
                              refine bq_if_eq_f (q := 199) (t := 206) G dX9_odds_196 rfl (by decide) (by decide) ?_
                              refine bq_bipush (q := 201) (v := 10) G (by decide) dX9_odds_199 rfl ?_
                              refine bq_iload_n (q := 202) G rfl dX9_odds_201 rfl ?_
                              refine bq_isub (q := 203) G dX9_odds_202 rfl ?_
                              refine bq_goto (q := 207) G dX9_odds_203 (by decide) ?_
                              refine bq_imul (q := 208) G dX9_odds_207 rfl ?_
                              refine bq_top (congrArg Value.int (by rw [show (10 : Int32) = nI 10 from rfl, pk_sub hp, pk_mul])) ?_
                              refine bq_istore (q := 210) (ls' := [_, _, _, _, _, _, _, _, _, _, _, _, _, _, _]) G dX9_odds_208 rfl (by decide) rfl rfl ?_
                              refine bq_iload (q := 212) G rfl dX9_odds_210 rfl ?_
                              refine bq_iload (q := 214) G rfl dX9_odds_212 rfl ?_
                              refine bq_if_eq_f (q := 217) (t := 221) G dX9_odds_214 rfl (by decide) (by decide) ?_
                              refine bq_iconst (q := 218) (v := 1) G (by decide) dX9_odds_217 rfl ?_
                              refine bq_goto (q := 222) G dX9_odds_218 (by decide) ?_
                              refine bq_iadd (q := 223) G dX9_odds_222 rfl ?_
                              refine bq_top (congrArg Value.int (nI_1 _)) ?_
                              refine bq_istore (q := 225) (ls' := [_, _, _, _, _, _, _, _, _, _, _, _, _, _, _]) G dX9_odds_223 rfl (by decide) rfl rfl ?_
                              refine bq_iinc (q := 228) (ls' := [_, _, _, _, _, _, _, _, _, _, _, _, _, _, _]) G dX9_odds_225 rfl rfl (by first | exact nI_1 _ | exact pk_m1 _ | rfl) (by decide) rfl rfl ?_
                              refine bq_goto (q := 167) G dX9_odds_228 (by decide) ?_
                              refine bq_forget G ?_ ihj
                              repeat (first | exact bq_le_0 _ | refine bq_le_n ?_ | refine bq_le_s rfl ?_)
                          · have hj9 : j = i := by omega
                            subst hj9
                            have hw : od_w s j ≤ j := by
                              have : ∀ a, od_w s a ≤ a := by
                                intro a
                                induction a with
                                | zero => exact Nat.le_refl 0
                                | succ a iha =>
                                  show od_w s a + (if od_b s a = 1 then 1 else 0) ≤ a + 1
                                  split <;> omega
                              exact this j
                            have ea : od_a p j κ (s + 1) = od_a p j κ s + (if κ ≤ od_w s j then od_i p s j else 0) := rfl
                            rw [ea] at ihs
                            refine bq_iload (q := 169) G rfl dX9_odds_167 rfl ?_
                            refine bq_iload (q := 171) G rfl dX9_odds_169 rfl ?_
                            refine bq_icmp_ge_t (t := 231) G dX9_odds_171 (by decide) (nI_le (a := j) (b := j) (by omega) (by omega)) ?_
                            refine bq_iload (q := 233) G rfl dX9_odds_231 rfl ?_
                            refine bq_iload (q := 235) G rfl dX9_odds_233 rfl ?_
                            refine bq_iload (q := 237) G rfl dX9_odds_235 rfl ?_
                            refine bq_icmp_lt (t := 245) (q := 240) G dX9_odds_237 (by decide) rfl (fun c237 => ?_) (fun c237 => ?_)
                            · have hlt : od_w s j < κ := (nI_ltI (by omega) (by omega)).mp c237
                              rw [if_neg (by omega)] at ihs
                              refine bq_iconst (q := 246) (v := 0) G (by decide) dX9_odds_245 rfl ?_
                              refine bq_iadd (q := 247) G dX9_odds_246 rfl ?_
                              refine bq_top (congrArg Value.int (Int32.add_zero _)) ?_
                              refine bq_istore (q := 249) (ls' := [_, _, _, _, _, _, _, _, _, _, _, _, _, _, _]) G dX9_odds_247 rfl (by decide) rfl rfl ?_
                              refine bq_iinc (q := 252) (ls' := [_, _, _, _, _, _, _, _, _, _, _, _, _, _, _]) G dX9_odds_249 rfl rfl (by first | exact nI_1 _ | exact pk_m1 _ | rfl) (by decide) rfl rfl ?_
                              refine bq_goto (q := 149) G dX9_odds_252 (by decide) ?_
                              refine bq_forget G ?_ ihs
                              repeat (first | exact bq_le_0 _ | refine bq_le_n ?_ | refine bq_le_s rfl ?_)
                            · have hge : κ ≤ od_w s j := by
                                rcases Nat.lt_or_ge (od_w s j) κ with h | h
                                · exact absurd ((nI_ltI (by omega) (by omega)).mpr h) c237
                                · exact h
                              rw [if_pos hge] at ihs
                              refine bq_iload (q := 242) G rfl dX9_odds_240 rfl ?_
                              refine bq_goto (q := 246) G dX9_odds_242 (by decide) ?_
                              refine bq_iadd (q := 247) G dX9_odds_246 rfl ?_
                              refine bq_top (congrArg Value.int (nI_add _ _)) ?_
                              refine bq_istore (q := 249) (ls' := [_, _, _, _, _, _, _, _, _, _, _, _, _, _, _]) G dX9_odds_247 rfl (by decide) rfl rfl ?_
                              refine bq_iinc (q := 252) (ls' := [_, _, _, _, _, _, _, _, _, _, _, _, _, _, _]) G dX9_odds_249 rfl rfl (by first | exact nI_1 _ | exact pk_m1 _ | rfl) (by decide) rfl rfl ?_
                              refine bq_goto (q := 149) G dX9_odds_252 (by decide) ?_
                              refine bq_forget G ?_ ihs
                              repeat (first | exact bq_le_0 _ | refine bq_le_n ?_ | refine bq_le_s rfl ?_)
                        refine bq_iload (q := 151) G rfl dX9_odds_149 rfl ?_
                        refine bq_iconst (q := 152) (v := 1) G (by decide) dX9_odds_151 rfl ?_
                        refine bq_iload (q := 154) G rfl dX9_odds_152 rfl ?_
                        refine bq_ishl (q := 155) G dX9_odds_154 rfl ?_
                        refine bq_icmp_ge_f (q := 158) (t := 255) G dX9_odds_155 rfl (by decide) (by rw [od_pow i (by omega)]; exact nI_ge (a := s) (b := 2 ^ i) hs8 (by omega)) ?_
                        refine bq_iconst (q := 159) (v := 1) G (by decide) dX9_odds_158 rfl ?_
                        refine bq_istore (q := 161) (ls' := [_, _, _, _, _, _, _, _, _, _, _, _, _, _, _]) G dX9_odds_159 rfl (by decide) rfl rfl ?_
                        refine bq_iconst (q := 162) (v := 0) G (by decide) dX9_odds_161 rfl ?_
                        refine bq_istore (q := 164) (ls' := [_, _, _, _, _, _, _, _, _, _, _, _, _, _, _]) G dX9_odds_162 rfl (by decide) rfl rfl ?_
                        refine bq_iconst (q := 165) (v := 0) G (by decide) dX9_odds_164 rfl ?_
                        refine bq_istore (q := 167) (ls' := [_, _, _, _, _, _, _, _, _, _, _, _, _, _, _]) G dX9_odds_165 rfl (by decide) rfl rfl ?_
                        exact lj 0 (by omega)
                      · have hs9 : s = 2 ^ i := by omega
                        subst hs9
                        have hab := (od_eq p (by omega) i (by omega) κ (by omega)).2
                        have h10 := od_ten i (by omega)
                        have h10p : 0 < 10 ^ i := Nat.pow_pos (by decide)
                        have ov : gs_oddv p i κ c = if c = 0 then nI (od_a p i κ (2 ^ i) / fr_g (od_a p i κ (2 ^ i) : Int) (10 ^ i)) else nI (10 ^ i / fr_g (od_a p i κ (2 ^ i) : Int) (10 ^ i)) := rfl
                        clear ihs ih
                        generalize od_a p i κ (2 ^ i) = a at hab ov ⊢
                        generalize 10 ^ i = d at hab h10 h10p ov ⊢
                        have ex : (nI a).toInt64 = lZ (a : Int) := by rw [nI_l (by omega), lZ_N]
                        have ey : (nI d).toInt64 = lN d := nI_l (by omega)
                        have gp : 0 < fr_g (a : Int) d := fr_g_pos h10p
                        have gl := fr_g_le (X := (a : Int)) h10p
                        have ne0 : ¬ nI (fr_g (a : Int) d) = 0 := nI_ne0 gp (by omega)
                        refine bq_iload (q := 151) G rfl dX9_odds_149 rfl ?_
                        refine bq_iconst (q := 152) (v := 1) G (by decide) dX9_odds_151 rfl ?_
                        refine bq_iload (q := 154) G rfl dX9_odds_152 rfl ?_
                        refine bq_ishl (q := 155) G dX9_odds_154 rfl ?_
                        refine bq_icmp_ge_t (t := 255) G dX9_odds_155 (by decide) (by rw [od_pow i (by omega)]; exact nI_le (a := 2 ^ i) (b := 2 ^ i) (by omega) (by omega)) ?_
                        refine bq_iload (q := 257) G rfl dX9_odds_255 rfl ?_
                        refine bq_i2l (q := 258) G dX9_odds_257 rfl ?_
                        refine bq_iload (q := 260) G rfl dX9_odds_258 rfl ?_
                        refine bq_i2l (q := 261) G dX9_odds_260 rfl ?_
                        refine bq_calls (q := 264) G dX9_odds_261 rfl cl_X9_156 (c_common ex ey (by omega) (by omega) (by omega)) rfl rfl ⟨Nat.le_of_ble_eq_true rfl, Nat.le_of_ble_eq_true rfl⟩ (Nat.le_of_ble_eq_true rfl) ⟨Nat.le_of_ble_eq_true rfl, Nat.le_of_ble_eq_true rfl⟩ rfl ?_
                        refine bq_l2i (q := 265) G dX9_odds_264 rfl ?_
                        refine bq_top (congrArg Value.int (lN_i _)) ?_
                        refine bq_istore (q := 267) (ls' := [_, _, _, _, _, _, _, _, _, _, _, _, _, _, _]) G dX9_odds_265 rfl (by decide) rfl rfl ?_
                        refine bq_iload (q := 269) G rfl dX9_odds_267 rfl ?_
                        first | refine bq_ifb_ne (t := 280) (q := 272) G dX9_odds_269 (by decide) rfl (fun c269 => ?_) (fun c269 => ?_) | refine bq_if_ne (t := 280) (q := 272) G dX9_odds_269 (by decide) rfl (fun c269 => ?_) (fun c269 => ?_)
                        · refine bq_iload (q := 282) G rfl dX9_odds_280 rfl ?_
                          refine bq_iload (q := 284) G rfl dX9_odds_282 rfl ?_
                          refine bq_idiv (q := 285) G ne0 dX9_odds_284 rfl ?_
                          refine hret _ _ _ _ _ dX9_odds_285 ⟨post _ (Or.inr ⟨hn9, ?_⟩), rfl, rfl⟩
                          rw [ov, if_neg c269, pk_div (by omega) gp (by omega)]
                        · refine bq_iload (q := 274) G rfl dX9_odds_272 rfl ?_
                          refine bq_iload (q := 276) G rfl dX9_odds_274 rfl ?_
                          refine bq_idiv (q := 277) G ne0 dX9_odds_276 rfl ?_
                          refine bq_goto (q := 285) G dX9_odds_277 (by decide) ?_
                          refine hret _ _ _ _ _ dX9_odds_285 ⟨post _ (Or.inr ⟨hn9, ?_⟩), rfl, rfl⟩
                          rw [ov, if_pos c269, pk_div (by omega) gp (by omega)]
                    refine bq_iload (q := 128) G rfl dX9_odds_126 rfl ?_
                    refine bq_iload (q := 130) G rfl dX9_odds_128 rfl ?_
                    refine bq_icmp_ge_t (t := 146) G dX9_odds_130 (by decide) (nI_le (a := i) (b := i) (by omega) (by omega)) ?_
                    refine bq_iconst (q := 147) (v := 0) G (by decide) dX9_odds_146 rfl ?_
                    refine bq_istore (q := 149) (ls' := [_, _, _, _, _, _, _, _, _, _, _, _, _, _, _]) G dX9_odds_147 rfl (by decide) rfl rfl ?_
                    exact ls 0 (Nat.zero_le _)
                refine bq_iconst (q := 118) (v := 0) G (by decide) dX9_odds_117 rfl ?_
                refine bq_istore (q := 120) (ls' := [_, _, _, _, _, _, _, _, _, _, _, _, _, _, _]) G dX9_odds_118 rfl (by decide) rfl rfl ?_
                refine bq_iconst (q := 121) (v := 1) G (by decide) dX9_odds_120 rfl ?_
                refine bq_istore (q := 123) (ls' := [_, _, _, _, _, _, _, _, _, _, _, _, _, _, _]) G dX9_odds_121 rfl (by decide) rfl rfl ?_
                refine bq_iconst (q := 124) (v := 0) G (by decide) dX9_odds_123 rfl ?_
                refine bq_istore (q := 126) (ls' := [_, _, _, _, _, _, _, _, _, _, _, _, _, _, _]) G dX9_odds_124 rfl (by decide) rfl rfl ?_
                exact lb 0 (by omega)
              · refine bq_ldc (q := 116) G wk_X9_163 dX9_odds_114 rfl ?_
                exact hret _ _ _ _ _ dX9_odds_116 ⟨post _ (Or.inl ⟨Int32.not_le.mp c111, rfl⟩), rfl, rfl⟩
            have fs : ∀ y : Int32, y = (if 1 < I 79 (19 + q) then I 79 (19 + q) else 1) → A 0 0 77 [some (.ref (z + 75)), some (.int (nI q)), some (.int (nI p)), some (.int (nI v)), some (.int (nI κ)), some (.int c), none, none, none, none, none, none, none, none, none] [.int y] 85 (bq_Rf z) I L := by
              intro y hy
              have ec : gs_com (I 79) q (nI v) = if nI v < y then 0 else 1 + (nI v - y) / I 79 (11 + q) := by rw [hy]; rfl
              refine bq_istore (q := 79) (ls' := [_, _, _, _, _, _, _, _, _, _, _, _, _, _, _]) G dX9_odds_77 rfl (by decide) rfl rfl ?_
              refine bq_iload (q := 81) G rfl dX9_odds_79 rfl ?_
              refine bq_iload_n (q := 82) G rfl dX9_odds_81 rfl ?_
              refine bq_icmp_le (t := 89) (q := 85) G dX9_odds_82 (by decide) rfl (fun c82 => ?_) (fun c82 => ?_)
              · refine bq_iconst (q := 90) (v := 1) G (by decide) dX9_odds_89 rfl ?_
                refine bq_iload_n (q := 91) G rfl dX9_odds_90 rfl ?_
                refine bq_iload (q := 93) G rfl dX9_odds_91 rfl ?_
                refine bq_isub (q := 94) G dX9_odds_93 rfl ?_
                refine bq_aload_n (q := 95) G rfl dX9_odds_94 rfl ?_
                refine bq_getr (q := 98) G dX9_odds_95 rfl fl_X9_19 (by first | assumption | exact ⟨Nat.le_of_ble_eq_true rfl, rfl⟩) (fun _ _ _ => rfl) (rf_75_5 z) ?_
                refine bq_bipush (q := 100) (v := 11) G (by decide) dX9_odds_98 rfl ?_
                refine bq_iload_n (q := 101) G rfl dX9_odds_100 rfl ?_
                refine bq_iadd (q := 102) G dX9_odds_101 rfl ?_
                refine bq_iald (q := 103) G dX9_odds_102 rfl (by first | assumption | exact ⟨Nat.le_of_ble_eq_true rfl, rfl⟩) (bq_ixa (a := 11) rfl (by first | with_reducible assumption | with_reducible exact rfl | exact rfl)) (by first | with_reducible assumption | omega | decide) (by decide) ?_
                refine bq_idiv (q := 104) G (fun h => by have h1 := pc.2.1; rw [h] at h1; exact absurd h1 (by decide)) dX9_odds_103 rfl ?_
                refine bq_iadd (q := 105) G dX9_odds_104 rfl ?_
                exact tm _ _ (by rw [← et, ec, if_neg (Int32.not_lt.mpr c82)])
              · refine bq_iconst (q := 86) (v := 0) G (by decide) dX9_odds_85 rfl ?_
                refine bq_goto (q := 105) G dX9_odds_86 (by decide) ?_
                exact tm _ _ (by rw [← et, ec, if_pos (Int32.not_le.mp c82)])
            refine bq_aload_n (q := 52) G rfl dX9_odds_51 rfl ?_
            refine bq_getr (q := 55) G dX9_odds_52 rfl fl_X9_19 (by first | assumption | exact ⟨Nat.le_of_ble_eq_true rfl, rfl⟩) (fun _ _ _ => rfl) (rf_75_5 z) ?_
            refine bq_bipush (q := 57) (v := 19) G (by decide) dX9_odds_55 rfl ?_
            refine bq_iload_n (q := 58) G rfl dX9_odds_57 rfl ?_
            refine bq_iadd (q := 59) G dX9_odds_58 rfl ?_
            refine bq_iald (q := 60) G dX9_odds_59 rfl (by first | assumption | exact ⟨Nat.le_of_ble_eq_true rfl, rfl⟩) (bq_ixa (a := 19) rfl (by first | with_reducible assumption | with_reducible exact rfl | exact rfl)) (by first | with_reducible assumption | omega | decide) (by decide) ?_
            refine bq_iconst (q := 61) (v := 1) G (by decide) dX9_odds_60 rfl ?_
            refine bq_icmp_ge (t := 68) (q := 64) G dX9_odds_61 (by decide) rfl (fun c61 => ?_) (fun c61 => ?_)
            · refine bq_aload_n (q := 69) G rfl dX9_odds_68 rfl ?_
              refine bq_getr (q := 72) G dX9_odds_69 rfl fl_X9_19 (by first | assumption | exact ⟨Nat.le_of_ble_eq_true rfl, rfl⟩) (fun _ _ _ => rfl) (rf_75_5 z) ?_
              refine bq_bipush (q := 74) (v := 19) G (by decide) dX9_odds_72 rfl ?_
              refine bq_iload_n (q := 75) G rfl dX9_odds_74 rfl ?_
              refine bq_iadd (q := 76) G dX9_odds_75 rfl ?_
              refine bq_iald (q := 77) G dX9_odds_76 rfl (by first | assumption | exact ⟨Nat.le_of_ble_eq_true rfl, rfl⟩) (bq_ixa (a := 19) rfl (by first | with_reducible assumption | with_reducible exact rfl | exact rfl)) (by first | with_reducible assumption | omega | decide) (by decide) ?_
              exact fs _ (by rw [← od_first, if_neg (Int32.not_lt.mpr c61)])
            · refine bq_iconst (q := 65) (v := 1) G (by decide) dX9_odds_64 rfl ?_
              refine bq_goto (q := 77) G dX9_odds_65 (by decide) ?_
              exact fs _ (by rw [← od_first, if_pos (Int32.not_le.mp c61)])
          · refine bq_iconst (q := 50) (v := -1) G (by decide) dX9_odds_49 rfl ?_
            exact hret _ _ _ _ _ dX9_odds_50 ⟨Or.inl ⟨fun h => c46 h.2.2.2.2, rfl⟩, rfl, rfl⟩
