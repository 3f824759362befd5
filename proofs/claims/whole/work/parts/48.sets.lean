theorem gs_st_51 {b : Nat} {x : gs_X} (hb : b < 8) {j : Nat} : (gs_st b x).1 (51 + j) = x.1 (51 + j) := by
  unfold gs_st
  split
  · show gs_2 b (gs_1 b x.1) (51 + j) = _
    unfold gs_2 gs_1
    rw [pk_un (by omega), pk_un (by omega), pk_un (by omega), pk_un (by omega)]
  · show gs_1 b x.1 (51 + j) = x.1 (51 + j)
    unfold gs_1
    rw [pk_un (by omega)]
theorem gs_lp_51 {x : gs_X} {j : Nat} : ∀ k, k ≤ 8 → (gs_lp k x).1 (51 + j) = x.1 (51 + j)
  | 0, _ => rfl
  | k + 1, hk => (gs_st_51 (by omega)).trans (gs_lp_51 k (by omega))
theorem gs_go_51 {w d ar : Int32} {S : Nat → Int32} {j : Nat} : gs_go w d ar S (51 + j) = S (51 + j) := by
  unfold gs_go gs_pk gs_min
  rw [pk_un (by omega), pk_un (by omega), pk_un (by omega)]
  have h := gs_lp_51 (x := (S, w, 0)) (j := j) 8 (Nat.le_refl 8)
  unfold gs_T
  exact h
theorem gs_it_51 {w d ar : Int32} {S : Nat → Int32} {j : Nat} : ∀ k, gs_it w d ar S k (51 + j) = S (51 + j)
  | 0 => rfl
  | k + 1 => gs_go_51.trans (gs_it_51 k)
theorem gs_orb_c {S S' : Nat → Int32} (h : ∀ j, S' (51 + j) = S (51 + j)) : ∀ k, gs_orb S' k = gs_orb S k
  | 0 => rfl
  | k + 1 => by show gs_orb S' k ||| _ = gs_orb S k ||| _; rw [gs_orb_c h k, h k]
theorem ix_abs {p t : Int32} (h : t ||| p = t) : p &&& t = p := by
  have e1 := congrArg Int32.toBitVec h
  apply Int32.toBitVec_inj.mp
  simp only [Int32.toBitVec_and, Int32.toBitVec_or] at e1 ⊢
  ext i hi
  have f1 := congrArg (fun v => v.getLsbD i) e1
  simp only [BitVec.getLsbD_and, BitVec.getLsbD_or, ← BitVec.getLsbD_eq_getElem] at f1 ⊢
  revert f1
  cases p.toBitVec.getLsbD i <;> cases t.toBitVec.getLsbD i <;> simp
theorem gs_F.one {S : Nat → Int32} {t : Int32} (h : gs_F S 51 t) {b : Nat} (hb : b < 8) (h1 : S (51 + b) = 1) : ((1 : Int32) <<< (nI b &&& 31)) &&& t = 1 <<< (nI b &&& 31) := by
  have h2 := h.set1 hb
  have e : upd S (51 + b) 1 = S := by
    funext j
    by_cases e : j = 51 + b
    · subst e; rw [pk_us, h1]
    · rw [pk_un e]
  rw [e] at h2
  exact ix_abs (h2.orb.symm.trans h.orb)
theorem gs_came {t : Int32} {x : gs_X} (hx : x.2.2 &&& t = x.2.2) (h : ∀ b, b < 8 → x.1 (51 + b) = 1 → ((1 : Int32) <<< (nI b &&& 31)) &&& t = 1 <<< (nI b &&& 31)) : ∀ k, k ≤ 8 → (gs_lp k x).2.2 &&& t = (gs_lp k x).2.2
  | 0, _ => hx
  | k + 1, hk => by
    have ih := gs_came hx h k (by omega)
    have e : (gs_lp k x).1 (51 + k) = x.1 (51 + k) := gs_lp_51 k (by omega)
    show (gs_st k (gs_lp k x)).2.2 &&& t = (gs_st k (gs_lp k x)).2.2
    generalize gs_lp k x = y at ih e
    unfold gs_st
    split
    · rename_i hc
      refine ix_or ih (h k (by omega) ?_)
      rw [← e]; exact (gs_1_51 (S := y.1)).symm.trans hc.1
    · exact ih
theorem gs_cameT {t w : Int32} {S : Nat → Int32} (h : ∀ b, b < 8 → S (51 + b) = 1 → ((1 : Int32) <<< (nI b &&& 31)) &&& t = 1 <<< (nI b &&& 31)) : (gs_T w S).2.2 &&& t = (gs_T w S).2.2 := by
  have h := gs_came (t := t) (x := (S, w, 0)) Int32.zero_and h 8 (Nat.le_refl 8)
  unfold gs_T
  exact h
theorem gs_hv_s (w d ar : Int32) (S : Nat → Int32) (b : Int32) (k : Nat) : gs_hv w d ar S b (k + 1) = gs_hv w d ar S b k ||| (if (gs_T w (gs_it w d ar S k)).2.2 &&& gs_hv w d ar S b k = 0 then 0 else (gs_T w (gs_it w d ar S k)).2.2) := by rw [gs_hv]
theorem gs_hv_in {w d ar : Int32} {S : Nat → Int32} {t : Int32} (h : gs_F S 51 t) {b : Nat} (hb : b < 8) (h1 : S (51 + b) = 1) (k : Nat) : gs_hv w d ar S (nI b) k &&& t = gs_hv w d ar S (nI b) k := by
  induction k with
  | zero => exact h.one hb h1
  | succ k ih =>
    have hc : (gs_T w (gs_it w d ar S k)).2.2 &&& t = (gs_T w (gs_it w d ar S k)).2.2 := gs_cameT (fun c hc hc1 => h.one hc ((gs_it_51 k).symm.trans hc1))
    rw [gs_hv_s]
    generalize (gs_T w (gs_it w d ar S k)).2.2 = u at hc
    refine ix_or ih ?_
    split
    · exact Int32.zero_and
    · exact hc
theorem ix_th {S : Nat → Int32} {t : Int32} (h : gs_F S 51 t) {b : Nat} (hb : b < 8) : t >>> (nI b &&& 31) &&& 1 = S (51 + b) := by
  obtain ⟨y, hy, rfl, hS⟩ := h
  rw [gs_t1 y hy b hb, hS b hb]
theorem gs_hrk_0 (w d ar : Int32) (S : Nat → Int32) (b : Int32) (m : Nat) : gs_hrk w d ar S b 0 m = if gs_hv w d ar S b m = gs_orb S 8 then nI m else -9 := rfl
/-- whether broom b is there, as the class asks -/
theorem gs_thr {S : Nat → Int32} {t b : Int32} (h : gs_F S 51 t) : (0 ≤ b ∧ b < 8 ∧ t >>> (b &&& 31) &&& 1 = 1) ↔ ((0 ≤ b ∧ b ≤ 7) ∧ S (51 + b.toNatClampNeg) = 1) := by
  constructor
  · intro hb
    have h7 : b ≤ 7 := by have := hb.2.1; simp only [Int32.lt_iff_toInt_lt, Int32.le_iff_toInt_le] at *; rw [show (8 : Int32).toInt = 8 by decide] at this; rw [show (7 : Int32).toInt = 7 by decide]; omega
    obtain ⟨k, hk, rfl⟩ := gs_ik ⟨hb.1, h7⟩
    rw [nI_clamp (by omega), ← ix_th h hk]
    exact ⟨⟨hb.1, h7⟩, hb.2.2⟩
  · intro hb
    obtain ⟨k, hk, rfl⟩ := gs_ik hb.1
    rw [nI_clamp (by omega), ← ix_th h hk] at hb
    exact ⟨hb.1.1, nI_lt (b := 8) (by omega) (by decide), hb.2⟩
