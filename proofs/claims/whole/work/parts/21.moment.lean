/-! a Moment's cells, and the row that they tell (all but minutes and peak) -/
def bq_Mo (z n : Nat) (R : bq_RR) (a : Nat) : Prop := bq_OB n a 5 ∧ bq_AR n (a + 1) 0 8 ∧ bq_AR n (a + 2) 0 8 ∧ bq_AR n (a + 3) 0 8 ∧ R a 3 = some (z + (a + 1)) ∧ R a 4 = some (z + (a + 2)) ∧ R a 5 = some (z + (a + 3))
def bq_MC (I : bq_IR) (a : Nat) (S : Nat → Int32) : Prop := I a 1 = S 1 ∧ (∀ b, b < 8 → I (a + 1) b = S (3 + b) ∧ I (a + 2) b = S (11 + b) ∧ I (a + 3) b = S (19 + b)) ∧ gs_F S 27 (I a 6) ∧ gs_F S 35 (I a 7) ∧ gs_F S 43 (I a 8) ∧ gs_F S 51 (I a 9)
theorem bq_srn1 {I : bq_IR} {a x j : Nat} {f : Nat → Int32} (h : x ≠ a) : bq_sr I a f x j = I x j := by rw [bq_sr_n h]
theorem bq_sru {I : bq_IR} {a j k : Nat} {v : Int32} : bq_sr I a (upd (I a) j v) a k = if k = j then v else I a k := by rw [bq_sr_s]; rfl
theorem bq_MC.water {I : bq_IR} {a : Nat} {S : Nat → Int32} (h : bq_MC I a S) (v : Int32) : bq_MC (bq_sr I a (upd (I a) 1 v)) a (upd S 1 v) := by
  obtain ⟨h1, h2, h3, h4, h5, h6⟩ := h
  refine ⟨by rw [bq_sru, pk_us, if_pos rfl], fun b hb => ?_, ?_, ?_, ?_, ?_⟩
  · rw [bq_srn1 (by omega), bq_srn1 (by omega), bq_srn1 (by omega), pk_un (by omega), pk_un (by omega), pk_un (by omega)]; exact h2 b hb
  · rw [bq_sru, if_neg (by decide)]; exact h3.oth (by omega)
  · rw [bq_sru, if_neg (by decide)]; exact h4.oth (by omega)
  · rw [bq_sru, if_neg (by decide)]; exact h5.oth (by omega)
  · rw [bq_sru, if_neg (by decide)]; exact h6.oth (by omega)
theorem bq_MC.oth {I : bq_IR} {a : Nat} {S : Nat → Int32} (h : bq_MC I a S) (j : Nat) (v : Int32) (hj : j = 0 ∨ j = 2 ∨ 10 ≤ j) : bq_MC (bq_sr I a (upd (I a) j v)) a S := by
  obtain ⟨h1, h2, h3, h4, h5, h6⟩ := h
  refine ⟨by rw [bq_sru, if_neg (by omega)]; exact h1, fun b hb => ?_, ?_, ?_, ?_, ?_⟩
  · rw [bq_srn1 (by omega), bq_srn1 (by omega), bq_srn1 (by omega)]; exact h2 b hb
  · rw [bq_sru, if_neg (by omega)]; exact h3
  · rw [bq_sru, if_neg (by omega)]; exact h4
  · rw [bq_sru, if_neg (by omega)]; exact h5
  · rw [bq_sru, if_neg (by omega)]; exact h6
theorem bq_MC.out {I : bq_IR} {a : Nat} {S S' : Nat → Int32} {w : Int32} (h : bq_MC I a S) (hw : gs_F S' 27 w) (hS : ∀ j, j < 27 ∨ 35 ≤ j → S' j = S j) : bq_MC (bq_sr I a (upd (I a) 6 w)) a S' := by
  obtain ⟨h1, h2, h3, h4, h5, h6⟩ := h
  refine ⟨by rw [bq_sru, if_neg (by decide), hS 1 (by omega)]; exact h1, fun b hb => ?_, ?_, ?_, ?_, ?_⟩
  · rw [bq_srn1 (by omega), bq_srn1 (by omega), bq_srn1 (by omega), hS _ (by omega), hS _ (by omega), hS _ (by omega)]; exact h2 b hb
  · rw [bq_sru, if_pos rfl]; exact hw
  · rw [bq_sru, if_neg (by decide)]; exact h4.congr (fun j hj => hS _ (by omega))
  · rw [bq_sru, if_neg (by decide)]; exact h5.congr (fun j hj => hS _ (by omega))
  · rw [bq_sru, if_neg (by decide)]; exact h6.congr (fun j hj => hS _ (by omega))
theorem bq_MC.bored {I : bq_IR} {a : Nat} {S S' : Nat → Int32} {w : Int32} (h : bq_MC I a S) (hw : gs_F S' 35 w) (hS : ∀ j, j < 35 ∨ 43 ≤ j → S' j = S j) : bq_MC (bq_sr I a (upd (I a) 7 w)) a S' := by
  obtain ⟨h1, h2, h3, h4, h5, h6⟩ := h
  refine ⟨by rw [bq_sru, if_neg (by decide), hS 1 (by omega)]; exact h1, fun b hb => ?_, ?_, ?_, ?_, ?_⟩
  · rw [bq_srn1 (by omega), bq_srn1 (by omega), bq_srn1 (by omega), hS _ (by omega), hS _ (by omega), hS _ (by omega)]; exact h2 b hb
  · rw [bq_sru, if_neg (by decide)]; exact h3.congr (fun j hj => hS _ (by omega))
  · rw [bq_sru, if_pos rfl]; exact hw
  · rw [bq_sru, if_neg (by decide)]; exact h5.congr (fun j hj => hS _ (by omega))
  · rw [bq_sru, if_neg (by decide)]; exact h6.congr (fun j hj => hS _ (by omega))
theorem bq_MC.wet {I : bq_IR} {a : Nat} {S S' : Nat → Int32} {w : Int32} (h : bq_MC I a S) (hw : gs_F S' 43 w) (hS : ∀ j, j < 43 ∨ 51 ≤ j → S' j = S j) : bq_MC (bq_sr I a (upd (I a) 8 w)) a S' := by
  obtain ⟨h1, h2, h3, h4, h5, h6⟩ := h
  refine ⟨by rw [bq_sru, if_neg (by decide), hS 1 (by omega)]; exact h1, fun b hb => ?_, ?_, ?_, ?_, ?_⟩
  · rw [bq_srn1 (by omega), bq_srn1 (by omega), bq_srn1 (by omega), hS _ (by omega), hS _ (by omega), hS _ (by omega)]; exact h2 b hb
  · rw [bq_sru, if_neg (by decide)]; exact h3.congr (fun j hj => hS _ (by omega))
  · rw [bq_sru, if_neg (by decide)]; exact h4.congr (fun j hj => hS _ (by omega))
  · rw [bq_sru, if_pos rfl]; exact hw
  · rw [bq_sru, if_neg (by decide)]; exact h6.congr (fun j hj => hS _ (by omega))
theorem bq_MC.there {I : bq_IR} {a : Nat} {S S' : Nat → Int32} {w : Int32} (h : bq_MC I a S) (hw : gs_F S' 51 w) (hS : ∀ j, j < 51 ∨ 59 ≤ j → S' j = S j) : bq_MC (bq_sr I a (upd (I a) 9 w)) a S' := by
  obtain ⟨h1, h2, h3, h4, h5, h6⟩ := h
  refine ⟨by rw [bq_sru, if_neg (by decide), hS 1 (by omega)]; exact h1, fun b hb => ?_, ?_, ?_, ?_, ?_⟩
  · rw [bq_srn1 (by omega), bq_srn1 (by omega), bq_srn1 (by omega), hS _ (by omega), hS _ (by omega), hS _ (by omega)]; exact h2 b hb
  · rw [bq_sru, if_neg (by decide)]; exact h3.congr (fun j hj => hS _ (by omega))
  · rw [bq_sru, if_neg (by decide)]; exact h4.congr (fun j hj => hS _ (by omega))
  · rw [bq_sru, if_neg (by decide)]; exact h5.congr (fun j hj => hS _ (by omega))
  · rw [bq_sru, if_pos rfl]; exact hw
theorem bq_MC.arr {I : bq_IR} {a : Nat} {S : Nat → Int32} (h : bq_MC I a S) {i k : Nat} (hi : i < 3) (hk : k < 8) (v : Int32) : bq_MC (bq_sr I (a + 1 + i) (upd (I (a + 1 + i)) k v)) a (upd S (3 + 8 * i + k) v) := by
  obtain ⟨h1, h2, h3, h4, h5, h6⟩ := h
  refine ⟨by rw [bq_srn1 (by omega), pk_un (by omega)]; exact h1, fun b hb => ?_, ?_, ?_, ?_, ?_⟩
  · obtain ⟨g1, g2, g3⟩ := h2 b hb
    rcases (show i = 0 ∨ i = 1 ∨ i = 2 by omega) with rfl | rfl | rfl
    · refine ⟨?_, by rw [bq_srn1 (by omega), pk_un (by omega)]; exact g2, by rw [bq_srn1 (by omega), pk_un (by omega)]; exact g3⟩
      show bq_sr I (a + 1) (upd (I (a + 1)) k v) (a + 1) b = upd S (3 + k) v (3 + b)
      rw [bq_sru]; unfold upd
      by_cases e : b = k
      · rw [if_pos e, if_pos (by omega)]
      · rw [if_neg e, if_neg (by omega)]; exact g1
    · refine ⟨by rw [bq_srn1 (by omega), pk_un (by omega)]; exact g1, ?_, by rw [bq_srn1 (by omega), pk_un (by omega)]; exact g3⟩
      show bq_sr I (a + 2) (upd (I (a + 2)) k v) (a + 2) b = upd S (11 + k) v (11 + b)
      rw [bq_sru]; unfold upd
      by_cases e : b = k
      · rw [if_pos e, if_pos (by omega)]
      · rw [if_neg e, if_neg (by omega)]; exact g2
    · refine ⟨by rw [bq_srn1 (by omega), pk_un (by omega)]; exact g1, by rw [bq_srn1 (by omega), pk_un (by omega)]; exact g2, ?_⟩
      show bq_sr I (a + 3) (upd (I (a + 3)) k v) (a + 3) b = upd S (19 + k) v (19 + b)
      rw [bq_sru]; unfold upd
      by_cases e : b = k
      · rw [if_pos e, if_pos (by omega)]
      · rw [if_neg e, if_neg (by omega)]; exact g3
  · rw [bq_srn1 (by omega)]; exact h3.oth (by omega)
  · rw [bq_srn1 (by omega)]; exact h4.oth (by omega)
  · rw [bq_srn1 (by omega)]; exact h5.oth (by omega)
  · rw [bq_srn1 (by omega)]; exact h6.oth (by omega)
theorem bq_MC.size {I : bq_IR} {a : Nat} {S : Nat → Int32} (h : bq_MC I a S) {k : Nat} (hk : k < 8) (v : Int32) : bq_MC (bq_sr I (a + 1) (upd (I (a + 1)) k v)) a (upd S (3 + k) v) := h.arr (i := 0) (by decide) hk v
theorem bq_MC.pace {I : bq_IR} {a : Nat} {S : Nat → Int32} (h : bq_MC I a S) {k : Nat} (hk : k < 8) (v : Int32) : bq_MC (bq_sr I (a + 2) (upd (I (a + 2)) k v)) a (upd S (11 + k) v) := h.arr (i := 1) (by decide) hk v
theorem bq_MC.due {I : bq_IR} {a : Nat} {S : Nat → Int32} (h : bq_MC I a S) {k : Nat} (hk : k < 8) (v : Int32) : bq_MC (bq_sr I (a + 3) (upd (I (a + 3)) k v)) a (upd S (19 + k) v) := h.arr (i := 2) (by decide) hk v
theorem bq_MC.same {I I' : bq_IR} {a : Nat} {S : Nat → Int32} (h : bq_MC I a S) (h0 : I' a = I a) (h1 : I' (a + 1) = I (a + 1)) (h2 : I' (a + 2) = I (a + 2)) (h3 : I' (a + 3) = I (a + 3)) : bq_MC I' a S := by
  unfold bq_MC at h ⊢; rw [h0, h1, h2, h3]; exact h
theorem bq_MC.row {I : bq_IR} {a : Nat} {S S' : Nat → Int32} (h : bq_MC I a S) (hS : ∀ j, j < 59 → j ≠ 0 → j ≠ 2 → S' j = S j) : bq_MC I a S' := by
  obtain ⟨h1, h2, h3, h4, h5, h6⟩ := h
  refine ⟨by rw [hS 1 (by omega) (by omega) (by omega)]; exact h1, fun b hb => ?_, h3.congr (fun j hj => hS _ (by omega) (by omega) (by omega)), h4.congr (fun j hj => hS _ (by omega) (by omega) (by omega)), h5.congr (fun j hj => hS _ (by omega) (by omega) (by omega)), h6.congr (fun j hj => hS _ (by omega) (by omega) (by omega))⟩
  rw [hS _ (by omega) (by omega) (by omega), hS _ (by omega) (by omega) (by omega), hS _ (by omega) (by omega) (by omega)]; exact h2 b hb
/-! arithmetic of the water -/
theorem gs_toInt_add {x y : Int32} (h1 : -1000000 ≤ x.toInt) (h2 : x.toInt ≤ 1000000) (h3 : -1000000 ≤ y.toInt) (h4 : y.toInt ≤ 1000000) : (x + y).toInt = x.toInt + y.toInt := by
  rw [Int32.toInt_add]; rw [Int.bmod_eq_of_le] <;> omega
theorem gs_toInt_sub {x y : Int32} (h1 : -1000000 ≤ x.toInt) (h2 : x.toInt ≤ 1000000) (h3 : -1000000 ≤ y.toInt) (h4 : y.toInt ≤ 1000000) : (x - y).toInt = x.toInt - y.toInt := by
  rw [Int32.toInt_sub]; rw [Int.bmod_eq_of_le] <;> omega
theorem gs_toInt_neg {y : Int32} (h3 : -1000000 ≤ y.toInt) (h4 : y.toInt ≤ 1000000) : (-y).toInt = -y.toInt := by
  rw [Int32.toInt_neg]; rw [Int.bmod_eq_of_le] <;> omega
theorem gs_half {x : Int32} (h1 : 0 ≤ x) (h2 : x ≤ 64) : 0 ≤ (x / 2).toInt ∧ (x / 2).toInt ≤ 32 ∧ (x / 2).toInt = x.toInt / 2 := by
  rw [Int32.le_iff_toInt_le] at h1 h2
  have e0 : (0 : Int32).toInt = 0 := rfl
  have e64 : (64 : Int32).toInt = 64 := rfl
  have e2 : (2 : Int32).toInt = 2 := rfl
  rw [e0] at h1; rw [e64] at h2
  have : (x / 2).toInt = x.toInt / 2 := by
    rw [Int32.toInt_div, e2, Int.tdiv_eq_ediv_of_nonneg h1]
    rw [Int.bmod_eq_of_le] <;> omega
  rw [this]; omega
theorem gs_ld_in {S : Nat → Int32} {b : Nat} (h : 0 ≤ S (3 + b) ∧ S (3 + b) ≤ 64) : 0 ≤ (gs_ld S b).toInt ∧ (gs_ld S b).toInt ≤ 64 := by
  unfold gs_ld
  split
  · have := gs_half h.1 h.2; omega
  · have e0 : (0 : Int32).toInt = 0 := rfl
    have e64 : (64 : Int32).toInt = 64 := rfl
    simp only [Int32.le_iff_toInt_le, e0, e64] at h
    exact h
theorem gs_out {w l : Int32} (hw : 0 ≤ w ∧ w ≤ 99999) (hl : 0 ≤ l.toInt ∧ l.toInt ≤ 64) : (if 0 < w - l then w - l else 0) = gs_cl (w + -l) := by
  have e0 : (0 : Int32).toInt = 0 := rfl
  have e9 : (99999 : Int32).toInt = 99999 := rfl
  simp only [Int32.le_iff_toInt_le, e0, e9] at hw
  have hn := gs_toInt_neg (y := l) (by omega) (by omega)
  have hs : (w - l).toInt = w.toInt - l.toInt := gs_toInt_sub (by omega) (by omega) (by omega) (by omega)
  have ha : (w + -l).toInt = w.toInt - l.toInt := by rw [gs_toInt_add (by omega) (by omega) (by omega) (by omega), hn]; omega
  have he : w + -l = w - l := Int32.toInt_inj.mp (by rw [ha, hs])
  unfold gs_cl
  rw [he]
  simp only [Int32.lt_iff_toInt_lt, e0, e9, hs]
  by_cases h : 0 < w.toInt - l.toInt
  · rw [if_pos h, if_neg (by omega), if_neg (by omega)]
  · rw [if_neg h]
    by_cases h2 : w.toInt - l.toInt < 0
    · rw [if_pos h2]
    · rw [if_neg h2, if_neg (by omega)]
      exact Int32.toInt_inj.mp (by rw [hs, e0]; omega)
theorem gs_in {w l : Int32} (hw : 0 ≤ w ∧ w ≤ 99999) (hl : 0 ≤ l.toInt ∧ l.toInt ≤ 64) : (if w + l < 99999 then w + l else 99999) = gs_cl (w + l) := by
  have e0 : (0 : Int32).toInt = 0 := rfl
  have e9 : (99999 : Int32).toInt = 99999 := rfl
  simp only [Int32.le_iff_toInt_le, e0, e9] at hw
  have ha : (w + l).toInt = w.toInt + l.toInt := gs_toInt_add (by omega) (by omega) (by omega) (by omega)
  unfold gs_cl
  simp only [Int32.lt_iff_toInt_lt, e0, e9, ha]
  by_cases h : w.toInt + l.toInt < 99999
  · rw [if_pos h, if_neg (by omega), if_neg (by omega)]
  · rw [if_neg h, if_neg (by omega)]
    by_cases h2 : 99999 < w.toInt + l.toInt
    · rw [if_pos h2]
    · rw [if_neg h2]
      exact Int32.toInt_inj.mp (by rw [ha, e9]; omega)
theorem gs_cl_in (v : Int32) : 0 ≤ gs_cl v ∧ gs_cl v ≤ 99999 := by
  unfold gs_cl
  split
  · decide
  · split
    · decide
    · rename_i h1 h2
      exact ⟨Int32.not_lt.mp h1, Int32.not_lt.mp h2⟩
