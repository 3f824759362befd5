/-! sets of brooms, bit by bit -/
theorem tb_nI {x i : Nat} : (nI x).toBitVec.getLsbD i = (decide (i < 32) && x.testBit i) := by
  show (Int32.ofNat x).toBitVec.getLsbD i = _
  rw [Int32.toBitVec_ofNat', BitVec.getLsbD_ofNat]
theorem tb_hi {x i : Nat} (hx : x < 256) (hi : 8 ≤ i) : x.testBit i = false := Nat.testBit_lt_two_pow (Nat.lt_of_lt_of_le hx (Nat.pow_le_pow_right (show 2 > 0 by decide) hi : 2 ^ 8 ≤ 2 ^ i))
theorem tb_01 {x j : Nat} : x / 2 ^ j % 2 = if x.testBit j = true then 1 else 0 := by
  rw [Nat.testBit_eq_decide_div_mod_eq]
  have : x / 2 ^ j % 2 < 2 := Nat.mod_lt _ (by decide)
  by_cases h : x / 2 ^ j % 2 = 1
  · rw [h]; rfl
  · rw [if_neg (by simpa using h)]; omega
theorem tb_or {x y : Nat} : nI x ||| nI y = nI (x ||| y) := by
  apply Int32.toBitVec_inj.mp
  rw [Int32.toBitVec_or]
  ext i hi
  rw [← BitVec.getLsbD_eq_getElem, ← BitVec.getLsbD_eq_getElem, BitVec.getLsbD_or, tb_nI, tb_nI, tb_nI, Nat.testBit_or, decide_eq_true hi]
  simp
theorem tb_n1 {i : Nat} (hi : i < 32) : (Int32.toBitVec (-1)).getLsbD i = true := by
  have : (Int32.toBitVec (-1)) = BitVec.allOnes 32 := by decide
  rw [this, BitVec.getLsbD_allOnes]; exact decide_eq_true hi
theorem tb_an {x y : Nat} (hx : x < 256) : nI x &&& (nI y ^^^ -1) = nI (x &&& (y ^^^ 255)) := by
  apply Int32.toBitVec_inj.mp
  rw [Int32.toBitVec_and, Int32.toBitVec_xor]
  ext i hi
  rw [← BitVec.getLsbD_eq_getElem, ← BitVec.getLsbD_eq_getElem, BitVec.getLsbD_and, BitVec.getLsbD_xor, tb_nI, tb_nI, tb_nI, tb_n1 hi, Nat.testBit_and, Nat.testBit_xor, decide_eq_true hi]
  rcases Nat.lt_or_ge i 8 with h | h
  · have h255 : ∀ k, k < 8 → (255 : Nat).testBit k = true := by decide
    rw [h255 i h]; simp
  · rw [tb_hi hx h]; simp
theorem tb_anlt {x y : Nat} (hx : x < 256) : (x &&& y) < 256 := Nat.lt_of_le_of_lt Nat.and_le_left hx
theorem tb_orlt {x y : Nat} (hx : x < 256) (hy : y < 256) : (x ||| y) < 256 := Nat.or_lt_two_pow (n := 8) hx hy
theorem tb_orb {x y j : Nat} : (x ||| y) / 2 ^ j % 2 = if y / 2 ^ j % 2 = 1 then 1 else x / 2 ^ j % 2 := by
  rw [tb_01, tb_01, tb_01, Nat.testBit_or]
  cases x.testBit j <;> cases y.testBit j <;> rfl
theorem tb_anb {x y j : Nat} (hj : j < 8) : (x &&& (y ^^^ 255)) / 2 ^ j % 2 = if y / 2 ^ j % 2 = 1 then 0 else x / 2 ^ j % 2 := by
  have h255 : ∀ k, k < 8 → (255 : Nat).testBit k = true := by decide
  rw [tb_01, tb_01, tb_01, Nat.testBit_and, Nat.testBit_xor, h255 j hj]
  cases x.testBit j <;> cases y.testBit j <;> rfl
theorem tb_sub {x y : Nat} (hx : x < 256) (h : ∀ j, j < 8 → x / 2 ^ j % 2 = 1 → y / 2 ^ j % 2 = 1) : x ≤ y := by
  have e : x &&& y = x := by
    apply Nat.eq_of_testBit_eq
    intro i
    rw [Nat.testBit_and]
    rcases Nat.lt_or_ge i 8 with h8 | h8
    · have := h i h8
      rw [tb_01, tb_01] at this
      revert this
      cases x.testBit i <;> cases y.testBit i <;> simp
    · rw [tb_hi hx h8]; rfl
  rw [← e]; exact Nat.and_le_right
theorem tb_an0 {x y : Nat} (hx : x < 256) : nI x &&& (nI y ^^^ -1) = 0 ↔ ∀ j, j < 8 → x / 2 ^ j % 2 = 0 ∨ y / 2 ^ j % 2 = 1 := by
  rw [tb_an hx, ← nI_0, nI_eq (by have := tb_anlt (y := y ^^^ 255) hx; omega) (by decide)]
  constructor
  · intro h j hj
    have e := tb_anb (x := x) (y := y) hj
    rw [h] at e
    by_cases hy : y / 2 ^ j % 2 = 1
    · exact Or.inr hy
    · rw [if_neg hy] at e
      left; rw [← e]; simp
  · intro h
    apply Nat.eq_of_testBit_eq
    intro i
    have h0 : Nat.testBit 0 i = false := by simp
    rw [h0, Nat.testBit_and]
    rcases Nat.lt_or_ge i 8 with h8 | h8
    · have h255 : ∀ k, k < 8 → (255 : Nat).testBit k = true := by decide
      have := h i h8
      rw [tb_01, tb_01] at this
      rw [Nat.testBit_xor, h255 i h8]
      revert this
      cases x.testBit i <;> cases y.testBit i <;> simp
    · rw [tb_hi hx h8]; rfl
theorem tb_bit {x : Nat} (hx : x < 256) {j : Nat} (hj : j < 8) : gs_bit (nI x) j = nI (x / 2 ^ j % 2) := gs_t1 x hx j hj
theorem tb_b1 {x : Nat} (hx : x < 256) {j : Nat} (hj : j < 8) : gs_bit (nI x) j = 1 ↔ x / 2 ^ j % 2 = 1 := by
  rw [tb_bit hx hj, show (1 : Int32) = nI 1 from rfl, nI_eq (by have : x / 2 ^ j % 2 < 2 := Nat.mod_lt _ (by decide); omega) (by decide)]
theorem tb_b0 {x : Nat} (hx : x < 256) {j : Nat} (hj : j < 8) : gs_bit (nI x) j = 0 ↔ x / 2 ^ j % 2 = 0 := by
  rw [tb_bit hx hj, show (0 : Int32) = nI 0 from rfl, nI_eq (by have : x / 2 ^ j % 2 < 2 := Nat.mod_lt _ (by decide); omega) (by decide)]
theorem gs_md_a (bu s : Int32) (S : Nat → Int32) : ∀ k, k ≤ 8 → ∀ b, b < 8 → gs_md bu s k S (51 + b) = if b < k ∧ (gs_bit s b = 1 ∧ ¬ bu = 0) then 0 else S (51 + b)
  | 0, _, b, _ => (if_neg (fun h => absurd h.1 (Nat.not_lt_zero b))).symm
  | k + 1, hk, b, hb => by
    have ih := gs_md_a bu s S k (by omega) b hb
    show upd (upd (gs_md bu s k S) (51 + k) (if gs_bit s k = 1 ∧ ¬ bu = 0 then 0 else gs_md bu s k S (51 + k))) (27 + k) (if gs_bit s k = 1 ∧ bu = 0 then 1 else upd (gs_md bu s k S) (51 + k) (if gs_bit s k = 1 ∧ ¬ bu = 0 then 0 else gs_md bu s k S (51 + k)) (27 + k)) (51 + b) = _
    rw [pk_un (show 51 + b ≠ 27 + k by omega)]
    by_cases e : b = k
    · subst e
      have e0 : gs_md bu s b S (51 + b) = S (51 + b) := ih.trans (if_neg (fun h => absurd h.1 (Nat.lt_irrefl b)))
      rw [pk_us, e0]
      by_cases hc : gs_bit s b = 1 ∧ ¬ bu = 0
      · rw [if_pos hc, if_pos ⟨Nat.lt_succ_self b, hc⟩]
      · rw [if_neg hc, if_neg (fun h => hc h.2)]
    · rw [pk_un (show 51 + b ≠ 51 + k by omega), ih]
      by_cases hc : b < k ∧ (gs_bit s b = 1 ∧ ¬ bu = 0)
      · rw [if_pos hc, if_pos ⟨Nat.lt_succ_of_lt hc.1, hc.2⟩]
      · rw [if_neg hc, if_neg (fun h => hc ⟨by have := h.1; omega, h.2⟩)]
theorem gs_md_b (bu s : Int32) (S : Nat → Int32) : ∀ k, k ≤ 8 → ∀ b, b < 8 → gs_md bu s k S (27 + b) = if b < k ∧ (gs_bit s b = 1 ∧ bu = 0) then 1 else S (27 + b)
  | 0, _, b, _ => (if_neg (fun h => absurd h.1 (Nat.not_lt_zero b))).symm
  | k + 1, hk, b, hb => by
    have ih := gs_md_b bu s S k (by omega) b hb
    show upd (upd (gs_md bu s k S) (51 + k) (if gs_bit s k = 1 ∧ ¬ bu = 0 then 0 else gs_md bu s k S (51 + k))) (27 + k) (if gs_bit s k = 1 ∧ bu = 0 then 1 else upd (gs_md bu s k S) (51 + k) (if gs_bit s k = 1 ∧ ¬ bu = 0 then 0 else gs_md bu s k S (51 + k)) (27 + k)) (27 + b) = _
    by_cases e : b = k
    · subst e
      have e0 : gs_md bu s b S (27 + b) = S (27 + b) := ih.trans (if_neg (fun h => absurd h.1 (Nat.lt_irrefl b)))
      rw [pk_us, pk_un (show 27 + b ≠ 51 + b by omega), e0]
      by_cases hc : gs_bit s b = 1 ∧ bu = 0
      · rw [if_pos hc, if_pos ⟨Nat.lt_succ_self b, hc⟩]
      · rw [if_neg hc, if_neg (fun h => hc h.2)]
    · rw [pk_un (show 27 + b ≠ 27 + k by omega), pk_un (show 27 + b ≠ 51 + k by omega), ih]
      by_cases hc : b < k ∧ (gs_bit s b = 1 ∧ bu = 0)
      · rw [if_pos hc, if_pos ⟨Nat.lt_succ_of_lt hc.1, hc.2⟩]
      · rw [if_neg hc, if_neg (fun h => hc ⟨by have := h.1; omega, h.2⟩)]
theorem gs_md_o (bu s : Int32) (S : Nat → Int32) {j : Nat} (h1 : j < 27 ∨ 35 ≤ j) (h2 : j < 51 ∨ 59 ≤ j) : ∀ k, k ≤ 8 → gs_md bu s k S j = S j
  | 0, _ => rfl
  | k + 1, hk => by
    have ih := gs_md_o bu s S h1 h2 k (by omega)
    show upd (upd (gs_md bu s k S) (51 + k) (if gs_bit s k = 1 ∧ ¬ bu = 0 then 0 else gs_md bu s k S (51 + k))) (27 + k) (if gs_bit s k = 1 ∧ bu = 0 then 1 else upd (gs_md bu s k S) (51 + k) (if gs_bit s k = 1 ∧ ¬ bu = 0 then 0 else gs_md bu s k S (51 + k)) (27 + k)) j = _
    rw [pk_un (show j ≠ 27 + k by omega), pk_un (show j ≠ 51 + k by omega), ih]
theorem gs_md51 {bu s : Int32} {S : Nat → Int32} {b : Nat} (hb : b < 8) : gs_md bu s 8 S (51 + b) = if gs_bit s b = 1 ∧ ¬ bu = 0 then 0 else S (51 + b) := by
  rw [gs_md_a bu s S 8 (Nat.le_refl 8) b hb]
  by_cases hc : gs_bit s b = 1 ∧ ¬ bu = 0
  · rw [if_pos hc, if_pos ⟨hb, hc⟩]
  · rw [if_neg hc, if_neg (fun h => hc h.2)]
theorem gs_md27 {bu s : Int32} {S : Nat → Int32} {b : Nat} (hb : b < 8) : gs_md bu s 8 S (27 + b) = if gs_bit s b = 1 ∧ bu = 0 then 1 else S (27 + b) := by
  rw [gs_md_b bu s S 8 (Nat.le_refl 8) b hb]
  by_cases hc : gs_bit s b = 1 ∧ bu = 0
  · rw [if_pos hc, if_pos ⟨hb, hc⟩]
  · rw [if_neg hc, if_neg (fun h => hc h.2)]
theorem gs_mdo {bu s : Int32} {S : Nat → Int32} {j : Nat} (h1 : j < 27 ∨ 35 ≤ j) (h2 : j < 51 ∨ 59 ≤ j) : gs_md bu s 8 S j = S j := gs_md_o bu s S h1 h2 8 (Nat.le_refl 8)
theorem gs_md_teach {s : Int32} {S : Nat → Int32} {j : Nat} (h1 : j < 27 ∨ 35 ≤ j) : gs_md 0 s 8 S j = S j := by
  rcases (show (j < 51 ∨ 59 ≤ j) ∨ ∃ b, b < 8 ∧ j = 51 + b by
    rcases Nat.lt_or_ge j 51 with h | h
    · exact Or.inl (Or.inl h)
    · rcases Nat.lt_or_ge j 59 with h3 | h3
      · exact Or.inr ⟨j - 51, by omega, by omega⟩
      · exact Or.inl (Or.inr h3)) with h | ⟨b, hb, rfl⟩
  · exact gs_mdo h1 h
  · rw [gs_md51 hb, if_neg (fun h => h.2 rfl)]
theorem gs_md_burn {bu s : Int32} (hb : ¬ bu = 0) {S : Nat → Int32} {j : Nat} (h1 : j < 51 ∨ 59 ≤ j) : gs_md bu s 8 S j = S j := by
  rcases (show (j < 27 ∨ 35 ≤ j) ∨ ∃ b, b < 8 ∧ j = 27 + b by
    rcases Nat.lt_or_ge j 27 with h | h
    · exact Or.inl (Or.inl h)
    · rcases Nat.lt_or_ge j 35 with h3 | h3
      · exact Or.inr ⟨j - 27, by omega, by omega⟩
      · exact Or.inl (Or.inr h3)) with h | ⟨b, hb8, rfl⟩
  · exact gs_mdo h h1
  · rw [gs_md27 hb8, if_neg (fun h => hb h.2)]
theorem gs_Ok.md {S : Nat → Int32} (h : gs_Ok S) (bu s : Int32) : gs_Ok (gs_md bu s 8 S) := by
  refine ⟨by rw [gs_mdo (by omega) (by omega)]; exact h.1, fun b hb => ?_⟩
  obtain ⟨h1, h2, h3, h4, h5, h6⟩ := h.2 b hb
  rw [gs_mdo (j := 3 + b) (by omega) (by omega), gs_mdo (j := 11 + b) (by omega) (by omega), gs_mdo (j := 35 + b) (by omega) (by omega), gs_mdo (j := 43 + b) (by omega) (by omega), gs_md51 hb, gs_md27 hb]
  refine ⟨h1, ?_, ?_, h4, h5, ?_⟩
  · split
    · intro h; exact absurd h (by decide)
    · exact h2
  · split
    · exact Or.inr rfl
    · exact h3
  · split
    · exact Or.inl rfl
    · exact h6
theorem gs_F.teach {S : Nat → Int32} {w : Int32} (h : gs_F S 27 w) {x : Nat} (hx : x < 256) : gs_F (gs_md 0 (nI x) 8 S) 27 (w ||| nI x) := by
  obtain ⟨y, hy, rfl, hS⟩ := h
  refine ⟨y ||| x, tb_orlt hy hx, tb_or, fun j hj => ?_⟩
  rw [gs_md27 hj, tb_orb]
  by_cases h : x / 2 ^ j % 2 = 1
  · rw [if_pos h, if_pos ⟨(tb_b1 hx hj).mpr h, rfl⟩]; rfl
  · rw [if_neg h, if_neg (fun h2 => h ((tb_b1 hx hj).mp h2.1))]; exact hS j hj
theorem gs_F.burn {S : Nat → Int32} {w bu : Int32} (h : gs_F S 51 w) (hb : ¬ bu = 0) {x : Nat} (hx : x < 256) : gs_F (gs_md bu (nI x) 8 S) 51 (w &&& (nI x ^^^ -1)) := by
  obtain ⟨y, hy, rfl, hS⟩ := h
  refine ⟨y &&& (x ^^^ 255), tb_anlt hy, tb_an hy, fun j hj => ?_⟩
  rw [gs_md51 hj, tb_anb hj]
  by_cases h : x / 2 ^ j % 2 = 1
  · rw [if_pos h, if_pos ⟨(tb_b1 hx hj).mpr h, hb⟩]; rfl
  · rw [if_neg h, if_neg (fun h2 => h ((tb_b1 hx hj).mp h2.1))]; exact hS j hj
theorem gs_on8 : ∀ x, x < 256 → ∃ c : Nat, c ≤ 8 ∧ gs_on (nI x) 8 = nI c := by
  have h : ∀ x, x < 256 → gs_on (nI x) 8 = nI (gs_on (nI x) 8).toNatClampNeg ∧ (gs_on (nI x) 8).toNatClampNeg ≤ 8 := by decide +kernel
  exact fun x hx => ⟨_, (h x hx).2, (h x hx).1⟩
