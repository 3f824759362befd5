/-! tokens, by the class -/
def cv_ (f : Nat → Int32) (s : Nat) : Nat → Int32
  | 0 => 0
  | i + 1 => if cv_ f s i * 10 + f (s + i) - 48 < 100 then cv_ f s i * 10 + f (s + i) - 48 else 100
theorem cv_s (f : Nat → Int32) (s i : Nat) : cv_ f s (i + 1) = if cv_ f s i * 10 + f (s + i) - 48 < 100 then cv_ f s i * 10 + f (s + i) - 48 else 100 := by rw [cv_]
theorem cv_dig {v : Int32} (h : 48 ≤ v ∧ v ≤ 57) : ∃ d : Nat, d ≤ 9 ∧ v = nI (48 + d) := by
  obtain ⟨x, hx, rfl⟩ := gs_rng (M := 57) (k := 57) (by decide) ⟨Int32.le_trans (by decide) h.1, h.2⟩
  have h48 : 48 ≤ x := (nI_leI (a := 48) (by decide) (by omega)).mp h.1
  exact ⟨x - 48, by omega, by rw [show 48 + (x - 48) = x by omega]⟩
theorem cv_step {a d : Nat} : nI a * 10 + nI (48 + d) - 48 = nI (a * 10 + d) := by
  rw [show (10 : Int32) = nI 10 from rfl, show (48 : Int32) = nI 48 from rfl, pk_mul, nI_add, pk_sub (by omega)]
  congr 1
  omega
theorem cv_mstep {a d : Nat} : 10 * nI a + nI (48 + d) - 48 = nI (a * 10 + d) := by
  rw [show (10 : Int32) = nI 10 from rfl, show (48 : Int32) = nI 48 from rfl, pk_mul, nI_add, pk_sub (by omega)]
  congr 1
  omega
theorem cv_min {a : Nat} (ha : a < 100000) : (if nI a < 100 then nI a else 100) = nI (if a < 100 then a else 100) := by
  by_cases h : a < 100
  · have h1 : nI a < 100 := nI_lt (b := 100) h (by decide)
    rw [if_pos h, if_pos h1]
  · have h1 : ¬ nI a < 100 := nI_nlt (a := a) (b := 100) (by omega) (by omega)
    rw [if_neg h, if_neg h1]; rfl
/-- the value of the class beside the model's -/
theorem cv_inv {f : Nat → Int32} {s : Nat} : ∀ i, (∀ j, j ≤ i → 48 ≤ f (s + j) ∧ f (s + j) ≤ 57) → ∃ a : Nat, a ≤ 100 ∧ cv_ f s (i + 1) = nI a ∧ ((a ≤ 99 ∧ tk_mv f s i = nI a ∧ (i = 0 ∨ ¬ f s = 48)) ∨ (99 < tk_mv f s i ∧ (a = 100 ∨ (f s = 48 ∧ 0 < i))))
  | 0, h => by
    obtain ⟨d, hd, e⟩ := cv_dig (h 0 (Nat.le_refl 0))
    refine ⟨d, by omega, ?_, Or.inl ⟨by omega, ?_, Or.inl rfl⟩⟩
    · have e1 : cv_ f s 0 = nI 0 := rfl
      rw [cv_s, e1, e, cv_step, show 0 * 10 + d = d by omega, cv_min (by omega), if_pos (by omega)]
    · show f s - 48 = nI d
      have e2 : f s = nI (48 + d) := e
      rw [e2, show (48 : Int32) = nI 48 from rfl, pk_sub (by omega), show 48 + d - 48 = d by omega]
  | i + 1, h => by
    obtain ⟨a, ha, ea, hh⟩ := cv_inv i (fun j hj => h j (by omega))
    obtain ⟨d, hd, e⟩ := cv_dig (h (i + 1) (Nat.le_refl _))
    have ec : cv_ f s (i + 1 + 1) = nI (if a * 10 + d < 100 then a * 10 + d else 100) := by
      rw [cv_s, ea, e, cv_step, cv_min (by omega)]
    have e' : f (s + 1 + i) = nI (48 + d) := by rw [show s + 1 + i = s + (i + 1) by omega]; exact e
    refine ⟨if a * 10 + d < 100 then a * 10 + d else 100, by split <;> omega, ec, ?_⟩
    rw [tk_mv_s]
    rcases hh with ⟨h1, h2, h3⟩ | ⟨h1, h2⟩
    · by_cases h48 : f s = 48
      · rw [if_pos (Or.inl h48)]
        exact Or.inr ⟨by decide, Or.inr ⟨h48, by omega⟩⟩
      · have hn : ¬ (99 : Int32) < nI a := nI_nlt (a := 99) (b := a) h1 (by decide)
        rw [h2, if_neg (fun hx : f s = 48 ∨ 99 < nI a => hx.elim h48 hn), e', cv_mstep]
        by_cases hs : a * 10 + d < 100
        · rw [if_pos hs]
          exact Or.inl ⟨by omega, rfl, Or.inr h48⟩
        · rw [if_neg hs]
          exact Or.inr ⟨nI_lt (a := 99) (by omega) (by omega), Or.inl rfl⟩
    · rw [if_pos (Or.inr h1)]
      refine Or.inr ⟨by decide, ?_⟩
      rcases h2 with h2 | ⟨h2, _⟩
      · left; rw [if_neg (by omega)]
      · exact Or.inr ⟨h2, by omega⟩
theorem c_at {z : Nat} {I : bq_IR} {L : bq_LR} {k t : Nat} {x : Int32} (hx : x = nI k) (ht : I 1 1 = nI t) (ht2 : t ≤ 200) (hk : k ≤ 1000) : bq_FC MX3_at z [.ref (z + 1), .int x] 85 (bq_Rf z) I L 0 0 (some (.int (tk_lt t (I 2) k))) 85 (bq_Rf z) I L := by
  subst hx
  have e : (if (0 ≤ nI k ∧ nI k < I 1 1 ∧ nI k < 200) then I 2 (nI k).toNatClampNeg else -1) = tk_lt t (I 2) k := by
    unfold tk_lt
    rw [ht, nI_clamp (by omega)]
    by_cases h : k < t
    · rw [if_pos h, if_pos ⟨nI_pos' (by omega), nI_lt h (by omega), nI_lt (b := 200) (by omega) (by decide)⟩]
    · rw [if_neg h, if_neg (fun h2 => h ((nI_ltI (by omega) (by omega)).mp h2.2.1))]
  rw [← e]
  exact c_X3_at
set_option maxHeartbeats 1000000 in
set_option maxRecDepth 100000 in
theorem c_X7_isDigit {z n : Nat} {R : bq_RR} {I : bq_IR} {L : bq_LR} {v : Int32}  : bq_FC MX7_isDigit z [.int v] n R I L 0 0 (some (.int (if 48 ≤ v ∧ v ≤ 57 then 1 else 0))) n R (I) (L) := by
  refine bq_ofI [some (.int v)] rfl (Nat.le_of_ble_eq_true rfl) (by decide) rfl (by first | rfl | exact bq_nb _ | (split <;> rfl)) ?_
  intro A G hret
  have G : bq_Cx cX7_isDigit RX7 1 z (bq_rm MX7_isDigit 0 0) "isDigit" A := G
  refine bq_iload_n (q := 1) G rfl dX7_isDigit_0 rfl ?_
  refine bq_bipush (q := 3) (v := 48) G (by decide) dX7_isDigit_1 rfl ?_
  refine bq_icmp_lt (t := 16) (q := 6) G dX7_isDigit_3 (by decide) rfl (fun c3 => ?_) (fun c3 => ?_)
  · refine bq_iconst (q := 17) (v := 0) G (by decide) dX7_isDigit_16 rfl ?_
    exact bq_ri (hret _ _ dX7_isDigit_17) (by simp only [Int32.lt_iff_toInt_lt, Int32.le_iff_toInt_le] at *; (repeat' split) <;> first | rfl | omega) rfl rfl
  · refine bq_iload_n (q := 7) G rfl dX7_isDigit_6 rfl ?_
    refine bq_bipush (q := 9) (v := 57) G (by decide) dX7_isDigit_7 rfl ?_
    refine bq_icmp_gt (t := 16) (q := 12) G dX7_isDigit_9 (by decide) rfl (fun c9 => ?_) (fun c9 => ?_)
    · refine bq_iconst (q := 17) (v := 0) G (by decide) dX7_isDigit_16 rfl ?_
      exact bq_ri (hret _ _ dX7_isDigit_17) (by simp only [Int32.lt_iff_toInt_lt, Int32.le_iff_toInt_le] at *; (repeat' split) <;> first | rfl | omega) rfl rfl
    · refine bq_iconst (q := 13) (v := 1) G (by decide) dX7_isDigit_12 rfl ?_
      refine bq_goto (q := 17) G dX7_isDigit_13 (by decide) ?_
      exact bq_ri (hret _ _ dX7_isDigit_17) (by simp only [Int32.lt_iff_toInt_lt, Int32.le_iff_toInt_le] at *; (repeat' split) <;> first | rfl | omega) rfl rfl
/-- only the reader's own numbers differ: next, place, token, number; seen stays -/
def cs_F (I J : bq_IR) : Prop := J 3 5 = I 3 5 ∧ ∀ x, x ≠ 3 → J x = I x
theorem cs_F.rf (I : bq_IR) : cs_F I I := ⟨rfl, fun _ _ => rfl⟩
theorem cs_F.tr {I J K : bq_IR} (h : cs_F I J) (h2 : cs_F J K) : cs_F I K := ⟨h2.1.trans h.1, fun x hx => (h2.2 x hx).trans (h.2 x hx)⟩
theorem cs_F.put {I J : bq_IR} (h : cs_F I J) {i : Nat} (hi : i ≠ 5) (v : Int32) : cs_F I (bq_sr J 3 (upd (J 3) i v)) := ⟨by rw [bq_sru, if_neg (Ne.symm hi)]; exact h.1, fun x hx => by rw [bq_sr_n hx]; exact h.2 x hx⟩
def cs_V (t : Nat) (f : Nat → Int32) (s : Nat) : Int32 := tk_mv f s (tk_E t f (s + 1) - (s + 1))
def cs_N (v tok num : Int32) : Prop := (tok = -2 ∧ num = v ∧ v ≤ 99) ∨ (tok = -3 ∧ 99 < v)
theorem tk_ltp {t : Nat} {f : Nat → Int32} {k : Nat} (h : 48 ≤ tk_lt t f k ∧ tk_lt t f k ≤ 57) : k < t ∧ tk_lt t f k = f k := (tk_E_s h).2
set_option maxHeartbeats 1000000 in
set_option maxRecDepth 100000 in
theorem c_X7_stepOverNumber {z : Nat} {I : bq_IR} {L : bq_LR} {t s : Nat} (ht : I 1 1 = nI t) (ht2 : t ≤ 200) (h1 : I 3 1 = nI s) (h2 : I 3 2 = nI s) (hd : 48 ≤ tk_lt t (I 2) s ∧ tk_lt t (I 2) s ≤ 57) : bq_FV MX7_stepOverNumber z [.ref (z + 3), .ref (z + 1)] 85 (bq_Rf z) I L (fun J L' => ((J 3 1 = nI (tk_E t (I 2) (s + 1)) ∧ J 3 2 = nI s) ∧ cs_N (cs_V t (I 2) s) (J 3 3) (J 3 4) ∧ cs_F I J) ∧ L' = L) := by
  refine bq_FVof [some (.ref (z + 3)), some (.ref (z + 1)), none, none] rfl (Nat.le_of_ble_eq_true rfl) (by decide) rfl ?_
  intro A G hret
  have G : bq_Cx cX7_stepOverNumber RX7 4 z (bq_rm MX7_stepOverNumber 0 0) "stepOverNumber" A := G
  have hst := (tk_ltp hd).1
  have hfs := (tk_ltp hd).2
  have fin : ∀ (i : Nat) (J : bq_IR) (l3 : Option Value), (∀ j, j < i + 1 → 48 ≤ I 2 (s + j) ∧ I 2 (s + j) ≤ 57) → tk_E t (I 2) (s + 1) = s + (i + 1) → (J 3 1 = nI (s + (i + 1)) ∧ J 3 2 = nI s) → cs_F I J → A 0 0 63 [some (.ref (z + 3)), some (.ref (z + 1)), some (.int (cv_ (I 2) s (i + 1))), none] [] 85 (bq_Rf z) J L := by
    intro i J l3 hdg hE hJ hF
    have hEt := (tk_E_in (t := t) (f := I 2) (k := s + 1) (by omega)).2
    have ev : cs_V t (I 2) s = tk_mv (I 2) s i := by unfold cs_V; rw [hE]; congr 1; omega
    obtain ⟨a, ha, ea, hh⟩ := cv_inv i (fun j hj => hdg j (by omega))
    have hT : J 1 1 = nI t := by rw [hF.2 1 (by decide)]; exact ht
    have e2 : J 2 = I 2 := hF.2 2 (by decide)
    rw [ea]
    have t113 : ∀ (w : Option Value) (tok : Int32), cs_N (cs_V t (I 2) s) tok (nI a) → A 0 0 113 [some (.ref (z + 3)), some (.ref (z + 1)), some (.int (nI a)), w] [.int tok, .ref (z + 3)] 85 (bq_Rf z) J L := by
      intro w tok hN
      refine bq_puti (q := 116) G dX7_stepOverNumber_113 rfl fl_X7_33 (by first | assumption | exact ⟨Nat.le_of_ble_eq_true rfl, rfl⟩) rfl rfl ?_
      refine bq_aload_n (q := 117) G rfl dX7_stepOverNumber_116 rfl ?_
      refine bq_iload_n (q := 118) G rfl dX7_stepOverNumber_117 rfl ?_
      refine bq_puti (q := 121) G dX7_stepOverNumber_118 rfl fl_X7_69 (by first | assumption | exact ⟨Nat.le_of_ble_eq_true rfl, rfl⟩) rfl rfl ?_
      refine hret _ _ _ _ dX7_stepOverNumber_121 ⟨⟨⟨?_, ?_⟩, ?_, (hF.put (by decide) _).put (by decide) _⟩, rfl⟩
      · rw [bq_sru, if_neg (by decide), bq_sru, if_neg (by decide), hE]; exact hJ.1
      · rw [bq_sru, if_neg (by decide), bq_sru, if_neg (by decide)]; exact hJ.2
      · rw [bq_sru, if_neg (by decide), bq_sru, if_pos rfl, bq_sru, if_pos rfl]; exact hN
    have t94 : ∀ zf : Int32, ((zf = 1 ∧ (I 2 s = 48 ∧ 0 < i)) ∨ (zf = 0 ∧ ¬ (I 2 s = 48 ∧ 0 < i))) → A 0 0 94 [some (.ref (z + 3)), some (.ref (z + 1)), some (.int (nI a)), none] [.int zf] 85 (bq_Rf z) J L := by
      intro zf hz
      rcases hz with ⟨rfl, hz⟩ | ⟨rfl, hz⟩
      · refine bq_istore_n (q := 95) (ls' := [_, _, _, _]) G dX7_stepOverNumber_94 rfl (by decide) rfl rfl ?_
        refine bq_aload_n (q := 96) G rfl dX7_stepOverNumber_95 rfl ?_
        refine bq_iload_n (q := 97) G rfl dX7_stepOverNumber_96 rfl ?_
        refine bq_if_ne_t (t := 106) G dX7_stepOverNumber_97 (by decide) (by decide) ?_
        refine bq_bipush (q := 108) (v := -3) G (by decide) dX7_stepOverNumber_106 rfl ?_
        refine bq_goto (q := 113) G dX7_stepOverNumber_108 (by decide) ?_
        refine t113 _ _ (Or.inr ⟨rfl, ?_⟩)
        rw [ev]
        rcases hh with ⟨_, _, h3⟩ | ⟨h1, _⟩
        · rcases h3 with h3 | h3
          · exact absurd hz.2 (by omega)
          · exact absurd hz.1 h3
        · exact h1
      · rcases hh with ⟨h1, h2, h3⟩ | ⟨h1, h2⟩
        · refine bq_istore_n (q := 95) (ls' := [_, _, _, _]) G dX7_stepOverNumber_94 rfl (by decide) rfl rfl ?_
          refine bq_aload_n (q := 96) G rfl dX7_stepOverNumber_95 rfl ?_
          refine bq_iload_n (q := 97) G rfl dX7_stepOverNumber_96 rfl ?_
          refine bq_if_ne_f (q := 100) (t := 106) G dX7_stepOverNumber_97 rfl (by decide) rfl ?_
          refine bq_iload_n (q := 101) G rfl dX7_stepOverNumber_100 rfl ?_
          refine bq_bipush (q := 103) (v := 99) G (by decide) dX7_stepOverNumber_101 rfl ?_
          refine bq_icmp_le_t (t := 111) G dX7_stepOverNumber_103 (by decide) (nI_le (b := 99) h1 (by decide)) ?_
          refine bq_bipush (q := 113) (v := -2) G (by decide) dX7_stepOverNumber_111 rfl ?_
          exact t113 _ _ (Or.inl ⟨rfl, by rw [ev, h2], by rw [ev, h2]; exact nI_le (b := 99) h1 (by decide)⟩)
        · have h100 : a = 100 := by
            rcases h2 with h2 | h2
            · exact h2
            · exact absurd h2 hz
          refine bq_istore_n (q := 95) (ls' := [_, _, _, _]) G dX7_stepOverNumber_94 rfl (by decide) rfl rfl ?_
          refine bq_aload_n (q := 96) G rfl dX7_stepOverNumber_95 rfl ?_
          refine bq_iload_n (q := 97) G rfl dX7_stepOverNumber_96 rfl ?_
          refine bq_if_ne_f (q := 100) (t := 106) G dX7_stepOverNumber_97 rfl (by decide) rfl ?_
          refine bq_iload_n (q := 101) G rfl dX7_stepOverNumber_100 rfl ?_
          refine bq_bipush (q := 103) (v := 99) G (by decide) dX7_stepOverNumber_101 rfl ?_
          refine bq_icmp_le_f (q := 106) (t := 111) G dX7_stepOverNumber_103 rfl (by decide) (by rw [h100]; decide) ?_
          refine bq_bipush (q := 108) (v := -3) G (by decide) dX7_stepOverNumber_106 rfl ?_
          refine bq_goto (q := 113) G dX7_stepOverNumber_108 (by decide) ?_
          exact t113 _ _ (Or.inr ⟨rfl, by rw [ev]; exact h1⟩)
    have ex : tk_lt t (J 2) s = I 2 s := by rw [e2]; exact hfs
    have ed : nI (s + (i + 1)) - nI s = nI (i + 1) := by rw [pk_sub (by omega)]; congr 1; omega
    refine bq_aload_n (q := 64) G rfl dX7_stepOverNumber_63 rfl ?_
    refine bq_aload_n (q := 65) G rfl dX7_stepOverNumber_64 rfl ?_
    refine bq_geti (q := 68) G dX7_stepOverNumber_65 rfl fl_X7_52 (by first | assumption | exact ⟨Nat.le_of_ble_eq_true rfl, rfl⟩) rfl ?_
    refine bq_callv (q := 71) G dX7_stepOverNumber_68 rfl cl_X7_86 (c_at (t := t) (k := s) hJ.2 hT ht2 (by omega)) rfl (by first | assumption | exact ⟨Nat.le_of_ble_eq_true rfl, rfl⟩) rfl ⟨Nat.le_of_ble_eq_true rfl, Nat.le_of_ble_eq_true rfl⟩ (Nat.le_of_ble_eq_true rfl) ⟨Nat.le_of_ble_eq_true rfl, Nat.le_of_ble_eq_true rfl⟩ rfl ?_
    rw [ex]
    refine bq_bipush (q := 73) (v := 48) G (by decide) dX7_stepOverNumber_71 rfl ?_
    refine bq_icmp_ne (t := 93) (q := 76) G dX7_stepOverNumber_73 (by decide) rfl (fun c73 => ?_) (fun c73 => ?_)
    · refine bq_iconst (q := 94) (v := 0) G (by decide) dX7_stepOverNumber_93 rfl ?_
      exact t94 _ (Or.inr ⟨rfl, fun h => c73 h.1⟩)
    · refine bq_aload_n (q := 77) G rfl dX7_stepOverNumber_76 rfl ?_
      refine bq_geti (q := 80) G dX7_stepOverNumber_77 rfl fl_X7_20 (by first | assumption | exact ⟨Nat.le_of_ble_eq_true rfl, rfl⟩) rfl ?_
      refine bq_aload_n (q := 81) G rfl dX7_stepOverNumber_80 rfl ?_
      refine bq_geti (q := 84) G dX7_stepOverNumber_81 rfl fl_X7_52 (by first | assumption | exact ⟨Nat.le_of_ble_eq_true rfl, rfl⟩) rfl ?_
      refine bq_isub (q := 85) G dX7_stepOverNumber_84 rfl ?_
      rw [hJ.1, hJ.2, ed]
      refine bq_iconst (q := 86) (v := 1) G (by decide) dX7_stepOverNumber_85 rfl ?_
      refine bq_icmp_le (t := 93) (q := 89) G dX7_stepOverNumber_86 (by decide) rfl (fun c86 => ?_) (fun c86 => ?_)
      · have h1 : i + 1 ≤ 1 := (nI_leI (b := 1) (by omega) (by decide)).mp c86
        refine bq_iconst (q := 94) (v := 0) G (by decide) dX7_stepOverNumber_93 rfl ?_
        exact t94 _ (Or.inr ⟨rfl, fun h => by have := h.2; omega⟩)
      · have h1 : ¬ i + 1 ≤ 1 := fun h => c86 (nI_le (b := 1) h (by decide))
        refine bq_iconst (q := 90) (v := 1) G (by decide) dX7_stepOverNumber_89 rfl ?_
        refine bq_goto (q := 94) G dX7_stepOverNumber_90 (by decide) ?_
        exact t94 _ (Or.inl ⟨rfl, c73, by omega⟩)
  have loop : ∀ i, i ≤ t - s → ∀ J : bq_IR, (∀ j, j < i → 48 ≤ I 2 (s + j) ∧ I 2 (s + j) ≤ 57) → (0 < i → tk_E t (I 2) (s + 1) = tk_E t (I 2) (s + i)) → (J 3 1 = nI (s + i) ∧ J 3 2 = nI s) → cs_F I J → A 0 0 4 [some (.ref (z + 3)), some (.ref (z + 1)), some (.int (cv_ (I 2) s i)), some (.int (nI i))] [] 85 (bq_Rf z) J L := by
    refine bq_down (t - s) ?_
    intro i hi ih J hdg hE hJ hF
    have hT : J 1 1 = nI t := by rw [hF.2 1 (by decide)]; exact ht
    have e2 : J 2 = I 2 := hF.2 2 (by decide)
    by_cases hdi : 48 ≤ tk_lt t (I 2) (s + i) ∧ tk_lt t (I 2) (s + i) ≤ 57
    · have hlt := (tk_ltp hdi).1
      have hfi := (tk_ltp hdi).2
      have hdi' : 48 ≤ tk_lt t (J 2) (s + i) ∧ tk_lt t (J 2) (s + i) ≤ 57 := by rw [e2]; exact hdi
      have exx : cv_ (I 2) s i * 10 + tk_lt t (J 2) (s + i) - 48 = cv_ (I 2) s i * 10 + I 2 (s + i) - 48 := by rw [e2, hfi]
      refine bq_iload_n (q := 5) G rfl dX7_stepOverNumber_4 rfl ?_
      refine bq_sipush (q := 8) (v := 200) G (by decide) dX7_stepOverNumber_5 rfl ?_
      refine bq_icmp_ge_f (q := 11) (t := 63) G dX7_stepOverNumber_8 rfl (by decide) (nI_ge (a := i) (b := 200) (by omega) (by decide)) ?_
      refine bq_aload_n (q := 12) G rfl dX7_stepOverNumber_11 rfl ?_
      refine bq_aload_n (q := 13) G rfl dX7_stepOverNumber_12 rfl ?_
      refine bq_geti (q := 16) G dX7_stepOverNumber_13 rfl fl_X7_20 (by first | assumption | exact ⟨Nat.le_of_ble_eq_true rfl, rfl⟩) rfl ?_
      refine bq_callv (q := 19) G dX7_stepOverNumber_16 rfl cl_X7_86 (c_at (t := t) (k := s + i) hJ.1 hT ht2 (by omega)) rfl (by first | assumption | exact ⟨Nat.le_of_ble_eq_true rfl, rfl⟩) rfl ⟨Nat.le_of_ble_eq_true rfl, Nat.le_of_ble_eq_true rfl⟩ (Nat.le_of_ble_eq_true rfl) ⟨Nat.le_of_ble_eq_true rfl, Nat.le_of_ble_eq_true rfl⟩ rfl ?_
      refine bq_calls (q := 22) G dX7_stepOverNumber_19 rfl cl_X7_89 (c_X7_isDigit) rfl rfl ⟨Nat.le_of_ble_eq_true rfl, Nat.le_of_ble_eq_true rfl⟩ (Nat.le_of_ble_eq_true rfl) ⟨Nat.le_of_ble_eq_true rfl, Nat.le_of_ble_eq_true rfl⟩ rfl ?_
      refine bq_if_eq_f (q := 25) (t := 63) G dX7_stepOverNumber_22 rfl (by decide) (by rw [if_pos hdi']; decide) ?_
      refine bq_bipush (q := 27) (v := 100) G (by decide) dX7_stepOverNumber_25 rfl ?_
      refine bq_iload_n (q := 28) G rfl dX7_stepOverNumber_27 rfl ?_
      refine bq_bipush (q := 30) (v := 10) G (by decide) dX7_stepOverNumber_28 rfl ?_
      refine bq_imul (q := 31) G dX7_stepOverNumber_30 rfl ?_
      refine bq_aload_n (q := 32) G rfl dX7_stepOverNumber_31 rfl ?_
      refine bq_aload_n (q := 33) G rfl dX7_stepOverNumber_32 rfl ?_
      refine bq_geti (q := 36) G dX7_stepOverNumber_33 rfl fl_X7_20 (by first | assumption | exact ⟨Nat.le_of_ble_eq_true rfl, rfl⟩) rfl ?_
      refine bq_callv (q := 39) G dX7_stepOverNumber_36 rfl cl_X7_86 (c_at (t := t) (k := s + i) hJ.1 hT ht2 (by omega)) rfl (by first | assumption | exact ⟨Nat.le_of_ble_eq_true rfl, rfl⟩) rfl ⟨Nat.le_of_ble_eq_true rfl, Nat.le_of_ble_eq_true rfl⟩ (Nat.le_of_ble_eq_true rfl) ⟨Nat.le_of_ble_eq_true rfl, Nat.le_of_ble_eq_true rfl⟩ rfl ?_
      refine bq_iadd (q := 40) G dX7_stepOverNumber_39 rfl ?_
      refine bq_bipush (q := 42) (v := 48) G (by decide) dX7_stepOverNumber_40 rfl ?_
      refine bq_isub (q := 43) G dX7_stepOverNumber_42 rfl ?_
      refine bq_calls (q := 46) G dX7_stepOverNumber_43 rfl cl_X7_95 (c_J9_min_7cf53) rfl rfl ⟨Nat.le_of_ble_eq_true rfl, Nat.le_of_ble_eq_true rfl⟩ (Nat.le_of_ble_eq_true rfl) ⟨Nat.le_of_ble_eq_true rfl, Nat.le_of_ble_eq_true rfl⟩ rfl ?_
      rw [exx, ← cv_s]
      refine bq_istore_n (q := 47) (ls' := [_, _, _, _]) G dX7_stepOverNumber_46 rfl (by decide) rfl rfl ?_
      refine bq_aload_n (q := 48) G rfl dX7_stepOverNumber_47 rfl ?_
      refine bq_dup (q := 49) G rfl dX7_stepOverNumber_48 rfl ?_
      refine bq_geti (q := 52) G dX7_stepOverNumber_49 rfl fl_X7_20 (by first | assumption | exact ⟨Nat.le_of_ble_eq_true rfl, rfl⟩) rfl ?_
      refine bq_iconst (q := 53) (v := 1) G (by decide) dX7_stepOverNumber_52 rfl ?_
      refine bq_iadd (q := 54) G dX7_stepOverNumber_53 rfl ?_
      refine bq_puti (q := 57) G dX7_stepOverNumber_54 rfl fl_X7_20 (by first | assumption | exact ⟨Nat.le_of_ble_eq_true rfl, rfl⟩) rfl rfl ?_
      refine bq_iinc (q := 60) (ls' := [_, _, _, _]) G dX7_stepOverNumber_57 rfl rfl (by first | exact nI_1 _ | exact pk_m1 _ | rfl) (by decide) rfl rfl ?_
      refine bq_goto (q := 4) G dX7_stepOverNumber_60 (by decide) ?_
      refine ih (by omega) _ ?_ ?_ ?_ (hF.put (by decide) _)
      · intro j hj
        rcases Nat.lt_or_ge j i with h | h
        · exact hdg j h
        · rw [show j = i by omega, ← hfi]; exact hdi
      · intro _
        rcases Nat.eq_zero_or_pos i with h | h
        · subst h; rfl
        · rw [hE h, (tk_E_s hdi).1]; rfl
      · refine ⟨?_, by rw [bq_sru, if_neg (by decide)]; exact hJ.2⟩
        rw [bq_sru, if_pos rfl, hJ.1, nI_1]; rfl
    · have hi0 : 0 < i := by
        rcases Nat.eq_zero_or_pos i with h | h
        · subst h; exact absurd hd hdi
        · exact h
      obtain ⟨i', rfl⟩ : ∃ i', i = i' + 1 := ⟨i - 1, by omega⟩
      have hdi' : ¬ (48 ≤ tk_lt t (J 2) (s + (i' + 1)) ∧ tk_lt t (J 2) (s + (i' + 1)) ≤ 57) := by rw [e2]; exact hdi
      have hEn : tk_E t (I 2) (s + 1) = s + (i' + 1) := by rw [hE hi0]; exact tk_E_n hdi
      have go63 : A 0 0 63 [some (.ref (z + 3)), some (.ref (z + 1)), some (.int (cv_ (I 2) s (i' + 1))), some (.int (nI (i' + 1)))] [] 85 (bq_Rf z) J L := by
        refine bq_forget G ?_ (fin i' J none hdg hEn hJ hF)
        repeat (first | exact bq_le_0 _ | refine bq_le_n ?_ | refine bq_le_s rfl ?_)
      rcases Nat.lt_or_ge (i' + 1) 200 with h200 | h200
      · refine bq_iload_n (q := 5) G rfl dX7_stepOverNumber_4 rfl ?_
        refine bq_sipush (q := 8) (v := 200) G (by decide) dX7_stepOverNumber_5 rfl ?_
        refine bq_icmp_ge_f (q := 11) (t := 63) G dX7_stepOverNumber_8 rfl (by decide) (nI_ge (a := i' + 1) (b := 200) h200 (by decide)) ?_
        refine bq_aload_n (q := 12) G rfl dX7_stepOverNumber_11 rfl ?_
        refine bq_aload_n (q := 13) G rfl dX7_stepOverNumber_12 rfl ?_
        refine bq_geti (q := 16) G dX7_stepOverNumber_13 rfl fl_X7_20 (by first | assumption | exact ⟨Nat.le_of_ble_eq_true rfl, rfl⟩) rfl ?_
        refine bq_callv (q := 19) G dX7_stepOverNumber_16 rfl cl_X7_86 (c_at (t := t) (k := s + (i' + 1)) hJ.1 hT ht2 (by omega)) rfl (by first | assumption | exact ⟨Nat.le_of_ble_eq_true rfl, rfl⟩) rfl ⟨Nat.le_of_ble_eq_true rfl, Nat.le_of_ble_eq_true rfl⟩ (Nat.le_of_ble_eq_true rfl) ⟨Nat.le_of_ble_eq_true rfl, Nat.le_of_ble_eq_true rfl⟩ rfl ?_
        refine bq_calls (q := 22) G dX7_stepOverNumber_19 rfl cl_X7_89 (c_X7_isDigit) rfl rfl ⟨Nat.le_of_ble_eq_true rfl, Nat.le_of_ble_eq_true rfl⟩ (Nat.le_of_ble_eq_true rfl) ⟨Nat.le_of_ble_eq_true rfl, Nat.le_of_ble_eq_true rfl⟩ rfl ?_
        refine bq_if_eq_t (t := 63) G dX7_stepOverNumber_22 (by decide) (if_neg hdi') ?_
        exact go63
      · refine bq_iload_n (q := 5) G rfl dX7_stepOverNumber_4 rfl ?_
        refine bq_sipush (q := 8) (v := 200) G (by decide) dX7_stepOverNumber_5 rfl ?_
        refine bq_icmp_ge_t (t := 63) G dX7_stepOverNumber_8 (by decide) (nI_le (a := 200) (b := i' + 1) h200 (by omega)) ?_
        exact go63
  refine bq_iconst (q := 1) (v := 0) G (by decide) dX7_stepOverNumber_0 rfl ?_
  refine bq_istore_n (q := 2) (ls' := [_, _, _, _]) G dX7_stepOverNumber_1 rfl (by decide) rfl rfl ?_
  refine bq_iconst (q := 3) (v := 0) G (by decide) dX7_stepOverNumber_2 rfl ?_
  refine bq_istore_n (q := 4) (ls' := [_, _, _, _]) G dX7_stepOverNumber_3 rfl (by decide) rfl rfl ?_
  exact loop 0 (by omega) I (fun j hj => by omega) (fun h => by omega) ⟨h1, h2⟩ (cs_F.rf I)
theorem tk_itd {v : Int32} (h : 48 ≤ v ∧ v ≤ 57) : tk_it v = -1 := by
  obtain ⟨d, hd, rfl⟩ := cv_dig h
  have : ∀ d, d < 10 → tk_it (nI (48 + d)) = -1 := by decide
  exact this d (by omega)
theorem tk_S_0 {t : Nat} {f : Nat → Int32} {k : Nat} (h : tk_c t f k < 0) : tk_S t f k = 0 := by unfold tk_S; rw [if_pos h]
theorem tk_S_2 {t : Nat} {f : Nat → Int32} {k : Nat} (h : 48 ≤ tk_c t f k ∧ tk_c t f k ≤ 57) : tk_S t f k = 2 := by
  unfold tk_S
  rw [if_neg (Int32.not_lt.mpr (Int32.le_trans (by decide) h.1)), tk_itd h, if_neg (by decide), if_pos h]
/-- what a step of the class tells of the token at k -/
def cs_T (t : Nat) (f : Nat → Int32) (k : Nat) (tok num : Int32) : Prop :=
  (tk_S t f k = 0 ∧ tok = -1) ∨ (tk_S t f k = 2 ∧ cs_N (tk_V t f k) tok num) ∨ ((¬ tk_S t f k = 0 ∧ ¬ tk_S t f k = 2) ∧ tok = tk_c t f k ∧ tk_V t f k = tk_c t f k ∧ 0 ≤ tk_c t f k ∧ (tk_S t f k = 1 ↔ ¬ tk_it (tk_c t f k) < 0) ∧ (tk_S t f k = 3 ↔ tk_c t f k = 59))
theorem cs_oth {t : Nat} {f : Nat → Int32} {k : Nat} {num : Int32} (h0 : ¬ tk_c t f k < 0) (hd : ¬ (48 ≤ tk_c t f k ∧ tk_c t f k ≤ 57)) : cs_T t f k (tk_c t f k) num ∧ tk_N t f k = tk_B t f k + 1 := by
  have key : (¬ tk_S t f k = 0 ∧ ¬ tk_S t f k = 2) ∧ (tk_S t f k = 1 ↔ ¬ tk_it (tk_c t f k) < 0) ∧ (tk_S t f k = 3 ↔ tk_c t f k = 59) := by
    unfold tk_S
    rw [if_neg h0]
    by_cases h1 : tk_it (tk_c t f k) < 0
    · rw [if_neg (fun h => h h1), if_neg hd]
      by_cases h2 : tk_c t f k = 59
      · rw [if_pos h2]
        exact ⟨⟨by decide, by decide⟩, ⟨fun h => absurd h (by decide), fun h => absurd h1 h⟩, ⟨fun _ => h2, fun _ => rfl⟩⟩
      · rw [if_neg h2]
        exact ⟨⟨by decide, by decide⟩, ⟨fun h => absurd h (by decide), fun h => absurd h1 h⟩, ⟨fun h => absurd h (by decide), fun h => absurd h h2⟩⟩
    · rw [if_pos h1]
      refine ⟨⟨by decide, by decide⟩, ⟨fun _ => h1, fun _ => rfl⟩, ⟨fun h => absurd h (by decide), fun h => ?_⟩⟩
      rw [h] at h1
      exact absurd h1 (by decide)
  refine ⟨Or.inr (Or.inr ⟨key.1, rfl, ?_, Int32.not_lt.mp h0, key.2⟩), ?_⟩
  · unfold tk_V; rw [if_neg key.1.2]
  · unfold tk_N; rw [if_neg key.1.1, if_neg key.1.2]
def cs_M (I J : bq_IR) (t k : Nat) : Prop := (J 3 1 = nI (tk_N t (I 2) k) ∧ J 3 2 = nI (tk_B t (I 2) k)) ∧ cs_T t (I 2) k (J 3 3) (J 3 4) ∧ cs_F I J
set_option maxHeartbeats 1000000 in
set_option maxRecDepth 100000 in
theorem c_X7_step {z : Nat} {I : bq_IR} {L : bq_LR} {t k : Nat} (ht : I 1 1 = nI t) (ht2 : t ≤ 200) (hk : k ≤ t) (ha : I 3 1 = nI k) : bq_FV MX7_step z [.ref (z + 3), .ref (z + 1)] 85 (bq_Rf z) I L (fun J L' => cs_M I J t k ∧ L' = L) := by
  refine bq_FVof [some (.ref (z + 3)), some (.ref (z + 1)), none] rfl (Nat.le_of_ble_eq_true rfl) (by decide) rfl ?_
  intro A G hret
  have G : bq_Cx cX7_step RX7 3 z (bq_rm MX7_step 0 0) "step" A := G
  have rest : ∀ (b : Nat) (J : bq_IR) (l2 : Option Value), b = tk_B t (I 2) k → J 3 1 = nI b → cs_F I J → A 0 0 38 [some (.ref (z + 3)), some (.ref (z + 1)), none] [] 85 (bq_Rf z) J L := by
    intro b J l2 hb hJ hF
    have hbt := (tk_B_in (t := t) (f := I 2) hk).2
    have ec : tk_c t (I 2) k = tk_lt t (I 2) b := by unfold tk_c; rw [hb]
    refine bq_aload_n (q := 39) G rfl dX7_step_38 rfl ?_
    refine bq_aload_n (q := 40) G rfl dX7_step_39 rfl ?_
    refine bq_geti (q := 43) G dX7_step_40 rfl fl_X7_20 (by first | assumption | exact ⟨Nat.le_of_ble_eq_true rfl, rfl⟩) rfl ?_
    refine bq_puti (q := 46) G dX7_step_43 rfl fl_X7_52 (by first | assumption | exact ⟨Nat.le_of_ble_eq_true rfl, rfl⟩) rfl rfl ?_
    refine bq_nameI (P := fun K => (K 3 1 = nI b ∧ K 3 2 = nI b) ∧ cs_F I K) ⟨⟨by rw [bq_sru, if_neg (by decide)]; exact hJ, by rw [bq_sru, if_pos rfl]; exact hJ⟩, hF.put (by decide) _⟩ (fun K hK => ?_)
    obtain ⟨⟨k1, k2⟩, kF⟩ := hK
    have hT : K 1 1 = nI t := by rw [kF.2 1 (by decide)]; exact ht
    have e2 : K 2 = I 2 := kF.2 2 (by decide)
    have ex : tk_lt t (K 2) b = tk_c t (I 2) k := by rw [e2, ec]
    refine bq_aload_n (q := 47) G rfl dX7_step_46 rfl ?_
    refine bq_aload_n (q := 48) G rfl dX7_step_47 rfl ?_
    refine bq_geti (q := 51) G dX7_step_48 rfl fl_X7_20 (by first | assumption | exact ⟨Nat.le_of_ble_eq_true rfl, rfl⟩) rfl ?_
    refine bq_callv (q := 54) G dX7_step_51 rfl cl_X7_86 (c_at (t := t) (k := b) k1 hT ht2 (by omega)) rfl (by first | assumption | exact ⟨Nat.le_of_ble_eq_true rfl, rfl⟩) rfl ⟨Nat.le_of_ble_eq_true rfl, Nat.le_of_ble_eq_true rfl⟩ (Nat.le_of_ble_eq_true rfl) ⟨Nat.le_of_ble_eq_true rfl, Nat.le_of_ble_eq_true rfl⟩ rfl ?_
    rw [ex]
    refine bq_istore_n (q := 55) (ls' := [_, _, _]) G dX7_step_54 rfl (by decide) rfl rfl ?_
    refine bq_iload_n (q := 56) G rfl dX7_step_55 rfl ?_
    refine bq_calls (q := 59) G dX7_step_56 rfl cl_X7_89 (c_X7_isDigit) rfl rfl ⟨Nat.le_of_ble_eq_true rfl, Nat.le_of_ble_eq_true rfl⟩ (Nat.le_of_ble_eq_true rfl) ⟨Nat.le_of_ble_eq_true rfl, Nat.le_of_ble_eq_true rfl⟩ rfl ?_
    first | refine bq_ifb_eq (t := 70) (q := 62) G dX7_step_59 (by decide) rfl (fun c59 => ?_) (fun c59 => ?_) | refine bq_if_eq (t := 70) (q := 62) G dX7_step_59 (by decide) rfl (fun c59 => ?_) (fun c59 => ?_)
    · refine bq_iload_n (q := 71) G rfl dX7_step_70 rfl ?_
      refine bq_if_ge (t := 82) (q := 74) G dX7_step_71 (by decide) rfl (fun c71 => ?_) (fun c71 => ?_)
      · refine bq_aload_n (q := 83) G rfl dX7_step_82 rfl ?_
        refine bq_iload_n (q := 84) G rfl dX7_step_83 rfl ?_
        refine bq_puti (q := 87) G dX7_step_84 rfl fl_X7_33 (by first | assumption | exact ⟨Nat.le_of_ble_eq_true rfl, rfl⟩) rfl rfl ?_
        refine bq_aload_n (q := 88) G rfl dX7_step_87 rfl ?_
        refine bq_dup (q := 89) G rfl dX7_step_88 rfl ?_
        refine bq_geti (q := 92) G dX7_step_89 rfl fl_X7_20 (by first | assumption | exact ⟨Nat.le_of_ble_eq_true rfl, rfl⟩) rfl ?_
        refine bq_iconst (q := 93) (v := 1) G (by decide) dX7_step_92 rfl ?_
        refine bq_iadd (q := 94) G dX7_step_93 rfl ?_
        refine bq_puti (q := 97) G dX7_step_94 rfl fl_X7_20 (by first | assumption | exact ⟨Nat.le_of_ble_eq_true rfl, rfl⟩) rfl rfl ?_
        obtain ⟨o1, o2⟩ := cs_oth (num := K 3 4) (Int32.not_lt.mpr c71) c59
        refine hret _ _ _ _ dX7_step_97 ⟨⟨⟨?_, ?_⟩, ?_, (kF.put (by decide) _).put (by decide) _⟩, rfl⟩
        · rw [bq_sru, if_pos rfl, bq_sru, if_neg (by decide), k1, nI_1, o2, hb]
        · rw [bq_sru, if_neg (by decide), bq_sru, if_neg (by decide), k2, hb]
        · rw [bq_sru, if_neg (by decide), bq_sru, if_pos rfl, bq_sru, if_neg (by decide), bq_sru, if_neg (by decide)]
          exact o1
      · have h0 : tk_S t (I 2) k = 0 := tk_S_0 (Int32.not_le.mp c71)
        refine bq_aload_n (q := 75) G rfl dX7_step_74 rfl ?_
        refine bq_iconst (q := 76) (v := -1) G (by decide) dX7_step_75 rfl ?_
        refine bq_puti (q := 79) G dX7_step_76 rfl fl_X7_33 (by first | assumption | exact ⟨Nat.le_of_ble_eq_true rfl, rfl⟩) rfl rfl ?_
        refine bq_goto (q := 97) G dX7_step_79 (by decide) ?_
        refine hret _ _ _ _ dX7_step_97 ⟨⟨⟨?_, ?_⟩, ?_, kF.put (by decide) _⟩, rfl⟩
        · rw [bq_sru, if_neg (by decide), k1, hb]; unfold tk_N; rw [if_pos h0]
        · rw [bq_sru, if_neg (by decide), k2, hb]
        · rw [bq_sru, if_pos rfl]
          exact Or.inl ⟨h0, rfl⟩
    · have h2 : tk_S t (I 2) k = 2 := tk_S_2 c59
      have hd : 48 ≤ tk_lt t (K 2) b ∧ tk_lt t (K 2) b ≤ 57 := by rw [ex]; exact c59
      refine bq_aload_n (q := 63) G rfl dX7_step_62 rfl ?_
      refine bq_aload_n (q := 64) G rfl dX7_step_63 rfl ?_
      refine bq_callvV (q := 67) G dX7_step_64 rfl cl_X7_92 (c_X7_stepOverNumber (t := t) (s := b) hT ht2 k1 k2 hd) rfl (by first | assumption | exact ⟨Nat.le_of_ble_eq_true rfl, rfl⟩) rfl ⟨Nat.le_of_ble_eq_true rfl, Nat.le_of_ble_eq_true rfl⟩ (Nat.le_of_ble_eq_true rfl) ⟨Nat.le_of_ble_eq_true rfl, Nat.le_of_ble_eq_true rfl⟩ (fun I64 L64 h64 => ?_)
      refine bq_goto (q := 97) G dX7_step_67 (by decide) ?_
      obtain ⟨⟨g1, g2, g3⟩, rfl⟩ := h64
      rw [e2] at g1 g2
      refine hret _ _ _ _ dX7_step_97 ⟨⟨⟨?_, by rw [g1.2, hb]⟩, Or.inr (Or.inl ⟨h2, ?_⟩), kF.tr g3⟩, rfl⟩
      · rw [g1.1, hb]; unfold tk_N; rw [if_neg (by rw [h2]; decide), if_pos h2]
      · have ev : tk_V t (I 2) k = cs_V t (I 2) b := by unfold tk_V cs_V; rw [if_pos h2, hb]
        rw [ev]; exact g2
  have loop : ∀ i, i ≤ t - k → ∀ J : bq_IR, tk_B t (I 2) k = tk_B t (I 2) (k + i) → J 3 1 = nI (k + i) → cs_F I J → A 0 0 2 [some (.ref (z + 3)), some (.ref (z + 1)), some (.int (nI i))] [] 85 (bq_Rf z) J L := by
    refine bq_down (t - k) ?_
    intro i hi ih J hB hJ hF
    have hT : J 1 1 = nI t := by rw [hF.2 1 (by decide)]; exact ht
    have e2 : J 2 = I 2 := hF.2 2 (by decide)
    by_cases h32 : tk_lt t (I 2) (k + i) = 32
    · have hlt : k + i < t := by
        rcases Nat.lt_or_ge (k + i) t with h | h
        · exact h
        · unfold tk_lt at h32
          rw [if_neg (by omega)] at h32
          exact absurd h32 (by decide)
      refine bq_iload_n (q := 3) G rfl dX7_step_2 rfl ?_
      refine bq_sipush (q := 6) (v := 200) G (by decide) dX7_step_3 rfl ?_
      refine bq_icmp_ge_f (q := 9) (t := 38) G dX7_step_6 rfl (by decide) (nI_ge (a := i) (b := 200) (by omega) (by decide)) ?_
      refine bq_aload_n (q := 10) G rfl dX7_step_9 rfl ?_
      refine bq_aload_n (q := 11) G rfl dX7_step_10 rfl ?_
      refine bq_geti (q := 14) G dX7_step_11 rfl fl_X7_20 (by first | assumption | exact ⟨Nat.le_of_ble_eq_true rfl, rfl⟩) rfl ?_
      refine bq_callv (q := 17) G dX7_step_14 rfl cl_X7_86 (c_at (t := t) (k := k + i) hJ hT ht2 (by omega)) rfl (by first | assumption | exact ⟨Nat.le_of_ble_eq_true rfl, rfl⟩) rfl ⟨Nat.le_of_ble_eq_true rfl, Nat.le_of_ble_eq_true rfl⟩ (Nat.le_of_ble_eq_true rfl) ⟨Nat.le_of_ble_eq_true rfl, Nat.le_of_ble_eq_true rfl⟩ rfl ?_
      refine bq_bipush (q := 19) (v := 32) G (by decide) dX7_step_17 rfl ?_
      refine bq_icmp_ne_f (q := 22) (t := 38) G dX7_step_19 rfl (by decide) (by rw [e2]; exact h32) ?_
      refine bq_aload_n (q := 23) G rfl dX7_step_22 rfl ?_
      refine bq_dup (q := 24) G rfl dX7_step_23 rfl ?_
      refine bq_geti (q := 27) G dX7_step_24 rfl fl_X7_20 (by first | assumption | exact ⟨Nat.le_of_ble_eq_true rfl, rfl⟩) rfl ?_
      refine bq_iconst (q := 28) (v := 1) G (by decide) dX7_step_27 rfl ?_
      refine bq_iadd (q := 29) G dX7_step_28 rfl ?_
      refine bq_puti (q := 32) G dX7_step_29 rfl fl_X7_20 (by first | assumption | exact ⟨Nat.le_of_ble_eq_true rfl, rfl⟩) rfl rfl ?_
      refine bq_iinc (q := 35) (ls' := [_, _, _]) G dX7_step_32 rfl rfl (by first | exact nI_1 _ | exact pk_m1 _ | rfl) (by decide) rfl rfl ?_
      refine bq_goto (q := 2) G dX7_step_35 (by decide) ?_
      refine ih (by omega) _ (by rw [hB, tk_B_s h32]; rfl) ?_ (hF.put (by decide) _)
      rw [bq_sru, if_pos rfl, hJ, nI_1]; rfl
    · have hBn : k + i = tk_B t (I 2) k := by rw [hB]; exact (tk_B_n h32).symm
      have go38 : A 0 0 38 [some (.ref (z + 3)), some (.ref (z + 1)), some (.int (nI i))] [] 85 (bq_Rf z) J L := by
        refine bq_forget G ?_ (rest (k + i) J none hBn hJ hF)
        repeat (first | exact bq_le_0 _ | refine bq_le_n ?_ | refine bq_le_s rfl ?_)
      rcases Nat.lt_or_ge i 200 with h200 | h200
      · refine bq_iload_n (q := 3) G rfl dX7_step_2 rfl ?_
        refine bq_sipush (q := 6) (v := 200) G (by decide) dX7_step_3 rfl ?_
        refine bq_icmp_ge_f (q := 9) (t := 38) G dX7_step_6 rfl (by decide) (nI_ge (a := i) (b := 200) h200 (by decide)) ?_
        refine bq_aload_n (q := 10) G rfl dX7_step_9 rfl ?_
        refine bq_aload_n (q := 11) G rfl dX7_step_10 rfl ?_
        refine bq_geti (q := 14) G dX7_step_11 rfl fl_X7_20 (by first | assumption | exact ⟨Nat.le_of_ble_eq_true rfl, rfl⟩) rfl ?_
        refine bq_callv (q := 17) G dX7_step_14 rfl cl_X7_86 (c_at (t := t) (k := k + i) hJ hT ht2 (by omega)) rfl (by first | assumption | exact ⟨Nat.le_of_ble_eq_true rfl, rfl⟩) rfl ⟨Nat.le_of_ble_eq_true rfl, Nat.le_of_ble_eq_true rfl⟩ (Nat.le_of_ble_eq_true rfl) ⟨Nat.le_of_ble_eq_true rfl, Nat.le_of_ble_eq_true rfl⟩ rfl ?_
        refine bq_bipush (q := 19) (v := 32) G (by decide) dX7_step_17 rfl ?_
        refine bq_icmp_ne_t (t := 38) G dX7_step_19 (by decide) (by rw [e2]; exact h32) ?_
        exact go38
      · refine bq_iload_n (q := 3) G rfl dX7_step_2 rfl ?_
        refine bq_sipush (q := 6) (v := 200) G (by decide) dX7_step_3 rfl ?_
        refine bq_icmp_ge_t (t := 38) G dX7_step_6 (by decide) (nI_le (a := 200) (b := i) h200 (by omega)) ?_
        exact go38
  refine bq_iconst (q := 1) (v := 0) G (by decide) dX7_step_0 rfl ?_
  refine bq_istore_n (q := 2) (ls' := [_, _, _]) G dX7_step_1 rfl (by decide) rfl rfl ?_
  exact loop 0 (by omega) I rfl ha (cs_F.rf I)
