/-! class and model side by side -/
theorem gs_Ok.cg {S S' : Nat → Int32} (h : gs_Ok S) (e : ∀ j, j < 59 → S' j = S j) : gs_Ok S' := by
  refine ⟨by rw [e 1 (by decide)]; exact h.1, fun b hb => ?_⟩
  rw [e (3 + b) (by omega), e (11 + b) (by omega), e (27 + b) (by omega), e (35 + b) (by omega), e (43 + b) (by omega), e (51 + b) (by omega)]
  exact h.2 b hb
def iv_row (I : bq_IR) (a : Nat) (S : Nat → Int32) : Prop := gs_Mr I a S ∧ gs_Ok S ∧ 0 ≤ S 0 ∧ S 0 ≤ 9999
theorem iv_row.fr {I J : bq_IR} {a : Nat} {S : Nat → Int32} (h : iv_row I a S) (hx : ∀ x, a ≤ x → x ≤ a + 3 → J x = I x) : iv_row J a S := ⟨h.1.fr hx, h.2⟩
theorem iv_row.row {I : bq_IR} {a : Nat} {S S' : Nat → Int32} (h : iv_row I a S) (e : ∀ j, j < 59 → S' j = S j) : iv_row I a S' := ⟨h.1.row e, h.2.1.cg e, by rw [e 0 (by decide)]; exact h.2.2⟩
def iv_T (I : bq_IR) (m : Nat) : Prop := rd_ok (I 77) m ∧ (∀ j, j < 5 → I 6 j = I 77 j) ∧ I 5 2 = nI m ∧ gs_Mr I 7 (cd_B (I 77) m)
def iv_H (I : bq_IR) (p l : Nat) : Prop := (I 75 7 = nI p ∧ p ≤ 8 ∧ I 25 1 = nI p ∧ I 25 2 = nI l ∧ l < 8) ∧ ∀ i, i < p → iv_row I (27 + 4 * ((l + 8 - i) % 8)) (fun j => I 80 (59 * (p - 1 - i) + j))
def iv_G (I : bq_IR) : Prop := ∀ i, i < 2 → I 68 i = I 82 i ∧ (¬ I 82 i = 0 → iv_row I (60 + 4 * i) (fun j => I 81 (59 * i + j)))
def iv_Q (I : bq_IR) (q : Nat) : Prop := (I 69 2 = nI q ∧ I 75 11 = nI q ∧ q ≤ 4) ∧ ∀ i, i < q → I 70 i = I 83 (2 * i) ∧ I 71 i = I 83 (2 * i + 1)
def iv_X (I : bq_IR) (t : Nat) : Prop := (I 1 1 = nI t ∧ I 75 2 = nI t ∧ t ≤ 200) ∧ I 2 = I 76 ∧ ∀ j, 0 ≤ I 2 j ∧ I 2 j ≤ 255
def iv_P (I : bq_IR) (m t p l q : Nat) : Prop := iv_T I m ∧ iv_row I 17 (I 79) ∧ iv_H I p l ∧ iv_G I ∧ iv_Q I q ∧ iv_X I t
theorem iv_T.fr {I J : bq_IR} {m : Nat} (h : iv_T I m) (h77 : J 77 = I 77) (hx : ∀ x, 5 ≤ x → x ≤ 10 → J x = I x) : iv_T J m := by
  obtain ⟨h1, h2, h3, h4⟩ := h
  refine ⟨by rw [h77]; exact h1, fun j hj => by rw [h77, hx 6 (by decide) (by decide)]; exact h2 j hj, by rw [hx 5 (by decide) (by decide)]; exact h3, ?_⟩
  rw [h77]
  exact h4.fr (fun x a b => hx x (by omega) (by omega))
theorem iv_H.fr {I J : bq_IR} {p l : Nat} (h : iv_H I p l) (h75 : J 75 7 = I 75 7) (h80 : J 80 = I 80) (h1 : J 25 1 = I 25 1) (h2 : J 25 2 = I 25 2) (hx : ∀ x, 27 ≤ x → x ≤ 58 → J x = I x) : iv_H J p l := by
  obtain ⟨⟨a1, a2, a3, a4, a5⟩, hr⟩ := h
  refine ⟨⟨h75.trans a1, a2, h1.trans a3, h2.trans a4, a5⟩, fun i hi => ?_⟩
  rw [h80]
  exact (hr i hi).fr (fun x a b => hx x (by omega) (by omega))
theorem iv_G.fr {I J : bq_IR} (h : iv_G I) (hx : ∀ x, 60 ≤ x → x ≤ 68 → J x = I x) (h81 : J 81 = I 81) (h82 : J 82 = I 82) : iv_G J := by
  intro i hi
  obtain ⟨a, b⟩ := h i hi
  rw [hx 68 (by decide) (by decide), h82, h81]
  exact ⟨a, fun hn => (b hn).fr (fun x p q => hx x (by omega) (by omega))⟩
theorem iv_Q.fr {I J : bq_IR} {q : Nat} (h : iv_Q I q) (h69 : J 69 2 = I 69 2) (h75 : J 75 11 = I 75 11) (h70 : J 70 = I 70) (h71 : J 71 = I 71) (h83 : J 83 = I 83) : iv_Q J q := by
  obtain ⟨⟨a1, a2, a3⟩, b⟩ := h
  refine ⟨⟨h69.trans a1, h75.trans a2, a3⟩, ?_⟩
  rw [h70, h71, h83]; exact b
theorem iv_X.fr {I J : bq_IR} {t : Nat} (h : iv_X I t) (h1 : J 1 1 = I 1 1) (h75 : J 75 2 = I 75 2) (h2 : J 2 = I 2) (h76 : J 76 = I 76) : iv_X J t := by
  obtain ⟨⟨a1, a2, a3⟩, b, c⟩ := h
  refine ⟨⟨h1.trans a1, h75.trans a2, a3⟩, ?_⟩
  rw [h2, h76]; exact ⟨b, c⟩
theorem iv_P.ck {I J : bq_IR} {m t p l q : Nat} (h : iv_P I m t p l q) (hJ : gs_cK I J) : iv_P J m t p l q := by
  obtain ⟨h1, h2, h3, h4, h5, h6⟩ := h
  have e : ∀ x, x < 21 ∨ 24 < x → J x = I x := hJ
  refine ⟨h1.fr (e 77 (by decide)) (fun x a b => e x (by omega)), ?_, h3.fr (by rw [e 75 (by decide)]) (e 80 (by decide)) (by rw [e 25 (by decide)]) (by rw [e 25 (by decide)]) (fun x a b => e x (by omega)), h4.fr (fun x a b => e x (by omega)) (e 81 (by decide)) (e 82 (by decide)), h5.fr (by rw [e 69 (by decide)]) (by rw [e 75 (by decide)]) (e 70 (by decide)) (e 71 (by decide)) (e 83 (by decide)), h6.fr (by rw [e 1 (by decide)]) (by rw [e 75 (by decide)]) (e 2 (by decide)) (e 76 (by decide))⟩
  rw [e 79 (by decide)]
  exact h2.fr (fun x a b => e x (by omega))
theorem iv_P.mk {I J : bq_IR} {m t p l q : Nat} (h : iv_P I m t p l q) (hJ : gs_mK I J) : iv_P J m t p l q := by
  obtain ⟨h1, h2, h3, h4, h5, h6⟩ := h
  obtain ⟨e79, e75, e⟩ := hJ
  refine ⟨h1.fr (e 77 (by decide) (by decide) (by decide)) (fun x a b => e x (by omega) (by omega) (by omega)), ?_, h3.fr (e75 7 (by decide) (by decide) (by decide)) (e 80 (by decide) (by decide) (by decide)) (by rw [e 25 (by decide) (by decide) (by decide)]) (by rw [e 25 (by decide) (by decide) (by decide)]) (fun x a b => e x (by omega) (by omega) (by omega)), h4.fr (fun x a b => e x (by omega) (by omega) (by omega)) (e 81 (by decide) (by decide) (by decide)) (e 82 (by decide) (by decide) (by decide)), h5.fr (by rw [e 69 (by decide) (by decide) (by decide)]) (e75 11 (by decide) (by decide) (by decide)) (e 70 (by decide) (by decide) (by decide)) (e 71 (by decide) (by decide) (by decide)) (e 83 (by decide) (by decide) (by decide)), h6.fr (by rw [e 1 (by decide) (by decide) (by decide)]) (e75 2 (by decide) (by decide) (by decide)) (e 2 (by decide) (by decide) (by decide)) (e 76 (by decide) (by decide) (by decide))⟩
  rw [e79]
  exact h2.fr (fun x a b => e x (by omega) (by omega) (by omega))
theorem iv_P.cs {I : bq_IR} {m t p l q : Nat} (h : iv_P I m t p l q) : gs_CS I (I 77) (I 79) := by
  obtain ⟨⟨hok, hs, _, _⟩, hr, _⟩ := h
  exact ⟨⟨hs 0 (by decide), hs 1 (by decide), hs 2 (by decide), hs 3 (by decide), hs 4 (by decide)⟩, hr.1, hr.2.1, hok.1.2.1.1, hok.1.2.2.1.1⟩
theorem iv_P.ar {I : bq_IR} {m t p l q : Nat} (h : iv_P I m t p l q) : ¬ I 77 1 = 0 := by
  intro e
  have := h.1.1.1.2.1.1
  rw [e] at this
  exact absurd this (by decide)
def INV (I : bq_IR) (L : bq_LR) : Prop := (∃ m t p l q, iv_P I m t p l q) ∧ L 74 0 = L 75 0
/-! what is done: the past of both -/
theorem gs_kn_le {p : Nat} (h : p ≤ 8) : gs_kn p ≤ 8 := by unfold gs_kn; split <;> omega
theorem iv_kp0 {p : Nat} (hp : p ≤ 8) {P S : Nat → Int32} {j : Nat} (hj : j < 59) : gs_kp p P S (59 * (gs_kn p - 1) + j) = S j := by
  unfold gs_kp gs_kn
  by_cases h : p = 8
  · rw [if_pos h, if_pos h]; exact gs_co_in hj
  · rw [if_neg h, if_neg h, show p + 1 - 1 = p by omega]; exact gs_co_in hj
theorem iv_kps {p i : Nat} (hp : p ≤ 8) (hi : i + 1 < gs_kn p) {P S : Nat → Int32} {j : Nat} (hj : j < 59) : gs_kp p P S (59 * (gs_kn p - 1 - (i + 1)) + j) = P (59 * (p - 1 - i) + j) := by
  unfold gs_kn at hi ⊢
  unfold gs_kp
  by_cases h : p = 8
  · rw [if_pos h] at hi
    rw [if_pos h, if_pos h, gs_co_out (by omega)]
    unfold gs_sh
    rw [if_pos (by omega)]
    congr 1
    omega
  · rw [if_neg h] at hi
    rw [if_neg h, if_neg h, gs_co_out (by omega)]
    congr 1
    omega
theorem gs_knn {p : Nat} (hp : p ≤ 8) {i : Nat} (hi : i + 1 < gs_kn p) : i < p ∧ i < 7 := by
  unfold gs_kn at hi
  by_cases h : p = 8
  · rw [if_pos h] at hi; omega
  · rw [if_neg h] at hi; omega
theorem iv_does {I J K : bq_IR} {m t p l q : Nat} {S' : Nat → Int32} (h : iv_P I m t p l q) (hJ : gs_cD I p l (I 79) S' J) (hK : gs_mP J p S' K) (hok : gs_Ok S') (h0 : 0 ≤ S' 0 ∧ S' 0 ≤ 9999) : iv_P K m t (gs_kn p) ((l + 1) % 8) q := by
  obtain ⟨h1, h2, ⟨⟨a1, a2, a3, a4, a5⟩, hr⟩, h4, h5, h6⟩ := h
  obtain ⟨c1, ⟨c2, c3⟩, c4, c5⟩ := hJ
  obtain ⟨⟨k79, k80, k75⟩, kj, kx⟩ := hK
  have hs : (l + 1) % 8 < 8 := Nat.mod_lt _ (by decide)
  generalize hse : (l + 1) % 8 = s at *
  have eJ : ∀ x, x < 17 ∨ 20 < x → x ≠ 25 → (x < 27 + 4 * s ∨ 27 + 4 * s + 3 < x) → x ≠ 75 → x ≠ 79 → x ≠ 80 → K x = I x := fun x a b c d e f => (kx x d e f).trans (c5 x a b c)
  have e75 : J 75 = I 75 := c5 75 (by decide) (by decide) (by omega)
  have e79 : J 79 = I 79 := c5 79 (by decide) (by decide) (by omega)
  have e80 : J 80 = I 80 := c5 80 (by decide) (by decide) (by omega)
  refine ⟨h1.fr (eJ 77 (by decide) (by decide) (by omega) (by decide) (by decide) (by decide)) (fun x a b => eJ x (by omega) (by omega) (by omega) (by omega) (by omega) (by omega)), ?_, ⟨⟨k75, gs_kn_le a2, ?_, ?_, hs⟩, ?_⟩, h4.fr (fun x a b => eJ x (by omega) (by omega) (by omega) (by omega) (by omega) (by omega)) (eJ 81 (by decide) (by decide) (by omega) (by decide) (by decide) (by decide)) (eJ 82 (by decide) (by decide) (by omega) (by decide) (by decide) (by decide)), h5.fr (by rw [eJ 69 (by decide) (by decide) (by omega) (by decide) (by decide) (by decide)]) (by rw [kj 11 (by decide) (by decide) (by decide) (by decide), e75]) (eJ 70 (by decide) (by decide) (by omega) (by decide) (by decide) (by decide)) (eJ 71 (by decide) (by decide) (by omega) (by decide) (by decide) (by decide)) (eJ 83 (by decide) (by decide) (by omega) (by decide) (by decide) (by decide)), h6.fr (by rw [eJ 1 (by decide) (by decide) (by omega) (by decide) (by decide) (by decide)]) (by rw [kj 2 (by decide) (by decide) (by decide) (by decide), e75]) (eJ 2 (by decide) (by decide) (by omega) (by decide) (by decide) (by decide)) (eJ 76 (by decide) (by decide) (by omega) (by decide) (by decide) (by decide))⟩
  · rw [k79]
    exact ⟨c1.fr (fun x a b => kx x (by omega) (by omega) (by omega)), hok, h0⟩
  · rw [kx 25 (by decide) (by decide) (by decide)]; exact c2
  · rw [kx 25 (by decide) (by decide) (by decide)]; exact c3
  · intro i hi
    rw [k80, e80, e79]
    cases i with
    | zero =>
      rw [show (s + 8 - 0) % 8 = s by omega]
      have hrow : iv_row K (27 + 4 * s) (I 79) := ⟨c4.fr (fun x a b => kx x (by omega) (by omega) (by omega)), h2.2⟩
      exact hrow.row (fun j hj => by rw [show gs_kn p - 1 - 0 = gs_kn p - 1 by omega]; exact iv_kp0 a2 hj)
    | succ i =>
      obtain ⟨hi1, hi7⟩ := gs_knn a2 hi
      have hslot : (s + 8 - (i + 1)) % 8 = (l + 8 - i) % 8 := by omega
      have hne : (l + 8 - i) % 8 ≠ s := by omega
      have hlt : (l + 8 - i) % 8 < 8 := Nat.mod_lt _ (by decide)
      rw [hslot]
      refine ((hr i hi1).fr (fun x a b => eJ x (by omega) (by omega) (by omega) (by omega) (by omega) (by omega))).row (fun j hj => iv_kps a2 hi hj)
theorem gs_Ok.put27 {S : Nat → Int32} (h : gs_Ok S) {k : Nat} (hk : k < 8) {v : Int32} (hv : v = 0 ∨ v = 1) : gs_Ok (upd S (27 + k) v) := by
  refine ⟨by rw [pk_un (by omega)]; exact h.1, fun b hb => ?_⟩
  obtain ⟨g1, g2, g3, g4, g5, g6⟩ := h.2 b hb
  rw [pk_un (show 3 + b ≠ 27 + k by omega), pk_un (show 11 + b ≠ 27 + k by omega), pk_un (show 35 + b ≠ 27 + k by omega), pk_un (show 43 + b ≠ 27 + k by omega), pk_un (show 51 + b ≠ 27 + k by omega)]
  refine ⟨g1, g2, ?_, g4, g5, g6⟩
  by_cases e : b = k
  · subst e; rw [pk_us]; exact hv
  · rw [pk_un (by omega)]; exact g3
theorem gs_Ok.put35 {S : Nat → Int32} (h : gs_Ok S) {k : Nat} (hk : k < 8) : gs_Ok (upd S (35 + k) 1) := by
  refine ⟨by rw [pk_un (by omega)]; exact h.1, fun b hb => ?_⟩
  obtain ⟨g1, g2, g3, g4, g5, g6⟩ := h.2 b hb
  rw [pk_un (show 3 + b ≠ 35 + k by omega), pk_un (show 11 + b ≠ 35 + k by omega), pk_un (show 27 + b ≠ 35 + k by omega), pk_un (show 43 + b ≠ 35 + k by omega), pk_un (show 51 + b ≠ 35 + k by omega)]
  refine ⟨g1, g2, g3, ?_, g5, g6⟩
  by_cases e : b = k
  · subst e; rw [pk_us]; exact Or.inr rfl
  · rw [pk_un (by omega)]; exact g4
theorem iv_minb {x : Int32} (h : 0 ≤ x ∧ x ≤ 9999) (hn : ¬ x = 9999) : 0 ≤ x + 1 ∧ x + 1 ≤ 9999 := by
  obtain ⟨k, hk, rfl⟩ := gs_rng (M := 9999) (k := 9999) (by decide) h
  have hk2 : k ≠ 9999 := fun e => hn (by rw [e]; rfl)
  rw [nI_1]
  exact ⟨nI_pos' (by omega), nI_le (b := 9999) (by omega) (by decide)⟩
theorem gs_go_0 {w d ar : Int32} {S : Nat → Int32} : gs_go w d ar S 0 = S 0 + 1 := by
  unfold gs_go gs_pk
  rw [pk_un (by decide), gs_min_0]
/-! what is told -/
theorem gs_bg_v {T : Nat → Int32} : ∀ m, m ≤ 8 → ∀ b, b < 8 → gs_bg T m (fun _ => 0) (3 + b) = (if b < m then T (8 + b) else 0) ∧ gs_bg T m (fun _ => 0) (11 + b) = (if b < m then T (16 + b) else 0) ∧ gs_bg T m (fun _ => 0) (51 + b) = (if b < m then 1 else 0)
  | 0, _, b, _ => ⟨rfl, rfl, rfl⟩
  | m + 1, hm, b, hb => by
    obtain ⟨i1, i2, i3⟩ := gs_bg_v (T := T) m (by omega) b hb
    have key : ∀ j, gs_bg T (m + 1) (fun _ => 0) j = upd (upd (upd (upd (gs_bg T m (fun _ => 0)) (3 + m) (T (8 + m))) (11 + m) (T (16 + m))) (19 + m) (T (24 + m))) (51 + m) 1 j := fun _ => rfl
    rw [key, key, key]
    by_cases e : b = m
    · subst e
      rw [if_pos (by omega), if_pos (by omega), if_pos (by omega)]
      refine ⟨?_, ?_, ?_⟩
      · rw [pk_un (by omega), pk_un (by omega), pk_un (by omega), pk_us]
      · rw [pk_un (by omega), pk_un (by omega), pk_us]
      · rw [pk_us]
    · refine ⟨?_, ?_, ?_⟩
      · rw [pk_un (by omega), pk_un (by omega), pk_un (by omega), pk_un (by omega), i1]
        by_cases h : b < m
        · rw [if_pos h, if_pos (by omega)]
        · rw [if_neg h, if_neg (by omega)]
      · rw [pk_un (by omega), pk_un (by omega), pk_un (by omega), pk_un (by omega), i2]
        by_cases h : b < m
        · rw [if_pos h, if_pos (by omega)]
        · rw [if_neg h, if_neg (by omega)]
      · rw [pk_un (by omega), pk_un (by omega), pk_un (by omega), pk_un (by omega), i3]
        by_cases h : b < m
        · rw [if_pos h, if_pos (by omega)]
        · rw [if_neg h, if_neg (by omega)]
theorem gs_bg_f {T : Nat → Int32} {j : Nat} (h1 : 27 ≤ j) (h2 : j < 51) : ∀ m, m ≤ 8 → gs_bg T m (fun _ => 0) j = 0
  | 0, _ => rfl
  | m + 1, hm => by
    show upd (upd (upd (upd (gs_bg T m (fun _ => 0)) (3 + m) (T (8 + m))) (11 + m) (T (16 + m))) (19 + m) (T (24 + m))) (51 + m) 1 j = 0
    rw [pk_un (by omega), pk_un (by omega), pk_un (by omega), pk_un (by omega)]
    exact gs_bg_f h1 h2 m (by omega)
theorem cd_Bv {D : Nat → Int32} {m j : Nat} (h1 : j ≠ 1) (h2 : j ≠ 2) : cd_B D m j = gs_bg D m (fun _ => 0) j := by unfold cd_B; rw [pk_un h2, pk_un h1]
theorem cd_there {D : Nat → Int32} {m : Nat} (hm : m ≤ 8) {b : Nat} (hb : b < 8) : cd_B D m (51 + b) = if b < m then 1 else 0 := by rw [cd_Bv (by omega) (by omega)]; exact (gs_bg_v m hm b hb).2.2
theorem cd_ok {D : Nat → Int32} {m : Nat} (h : rd_ok D m) : gs_Ok (cd_B D m) ∧ cd_B D m 0 = 0 := by
  obtain ⟨⟨w, _⟩, ⟨_, hm⟩, hb⟩ := h
  refine ⟨⟨?_, fun b hb8 => ?_⟩, ?_⟩
  · have e : cd_B D m 1 = D 0 := by unfold cd_B; rw [pk_un (by decide), pk_us]
    rw [e]
    exact ⟨w.1, Int32.le_trans w.2 (by decide)⟩
  · obtain ⟨v1, v2, v3⟩ := gs_bg_v (T := D) m hm b hb8
    rw [cd_Bv (j := 3 + b) (by omega) (by omega), cd_Bv (j := 11 + b) (by omega) (by omega), cd_Bv (j := 27 + b) (by omega) (by omega), cd_Bv (j := 35 + b) (by omega) (by omega), cd_Bv (j := 43 + b) (by omega) (by omega), cd_Bv (j := 51 + b) (by omega) (by omega), v1, v2, v3, gs_bg_f (by omega) (by omega) m hm, gs_bg_f (by omega) (by omega) m hm, gs_bg_f (by omega) (by omega) m hm]
    by_cases hlt : b < m
    · obtain ⟨b1, b2, b3⟩ := hb b hlt
      rw [if_pos hlt, if_pos hlt, if_pos hlt]
      exact ⟨⟨Int32.le_trans (by decide) b1.1, b1.2⟩, fun _ => ⟨b1.1, b2⟩, Or.inl rfl, Or.inl rfl, Or.inl rfl, Or.inr rfl⟩
    · rw [if_neg hlt, if_neg hlt, if_neg hlt]
      exact ⟨⟨by decide, by decide⟩, fun h => absurd h (by decide), Or.inl rfl, Or.inl rfl, Or.inl rfl, Or.inl rfl⟩
  · unfold cd_B
    rw [pk_un (by decide), pk_un (by decide), gs_bg_lo (by decide)]
theorem rd_ok.cg {D D' : Nat → Int32} {m : Nat} (h : rd_ok D m) (e : ∀ j, j < 32 → D' j = D j) : rd_ok D' m := by
  obtain ⟨h1, h2, h3⟩ := h
  refine ⟨?_, ?_, fun b hb => ?_⟩
  · rw [e 0 (by decide), e 1 (by decide), e 2 (by decide), e 3 (by decide), e 4 (by decide)]; exact h1
  · rw [e 5 (by decide)]; exact h2
  · have := h2.2
    rw [e (8 + b) (by omega), e (16 + b) (by omega), e (24 + b) (by omega)]; exact h3 b hb
theorem cd_B_cg {D D' : Nat → Int32} {m : Nat} (hm : m ≤ 8) (e : ∀ j, j < 32 → D' j = D j) : cd_B D' m = cd_B D m := by
  have hc : gs_bg D' m (fun _ => 0) = gs_bg D m (fun _ => 0) := gs_bg_c m (fun b hb => ⟨e _ (by omega), e _ (by omega), e _ (by omega)⟩)
  unfold cd_B
  rw [hc, e 0 (by decide), e 1 (by decide)]
