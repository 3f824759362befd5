/-! the flags, and what a minute is: S is a row of 59 ints (0 minutes, 1 water, 2 peak, 3.. size, 11.. pace, 19.. due, 27.. out, 35.. bored, 43.. wet, 51.. there) -/
def gs_F (S : Nat → Int32) (o : Nat) (w : Int32) : Prop := ∃ x : Nat, x < 256 ∧ w = nI x ∧ ∀ j, j < 8 → S (o + j) = nI (x / 2 ^ j % 2)
theorem gs_t1 : ∀ x, x < 256 → ∀ b, b < 8 → (nI x >>> (nI b &&& 31)) &&& 1 = nI (x / 2 ^ b % 2) := by decide +kernel
theorem gs_t2 : ∀ x, x < 256 → ∀ b, b < 8 → nI x ||| (1 <<< (nI b &&& 31)) = nI (x ||| 2 ^ b) ∧ (x ||| 2 ^ b) < 256 := by decide +kernel
theorem gs_t3 : ∀ x, x < 256 → ∀ b, b < 8 → nI x &&& ((1 <<< (nI b &&& 31)) ^^^ (-1)) = nI (x - (x / 2 ^ b % 2) * 2 ^ b) := by decide +kernel
theorem gs_t4 : ∀ x, x < 256 → ∀ b, b < 8 → nI x ^^^ (1 <<< (nI b &&& 31)) = nI (x ^^^ 2 ^ b) ∧ (x ^^^ 2 ^ b) < 256 := by decide +kernel
set_option maxRecDepth 100000 in
theorem gs_u2 : ∀ x, x < 256 → ∀ b, b < 8 → ∀ j, j < 8 → (x ||| 2 ^ b) / 2 ^ j % 2 = if j = b then 1 else x / 2 ^ j % 2 := by decide +kernel
set_option maxRecDepth 100000 in
theorem gs_u3 : ∀ x, x < 256 → ∀ b, b < 8 → ∀ j, j < 8 → (x - (x / 2 ^ b % 2) * 2 ^ b) / 2 ^ j % 2 = if j = b then 0 else x / 2 ^ j % 2 := by decide +kernel
set_option maxRecDepth 100000 in
theorem gs_u4 : ∀ x, x < 256 → ∀ b, b < 8 → ∀ j, j < 8 → (x ^^^ 2 ^ b) / 2 ^ j % 2 = if j = b then 1 - x / 2 ^ j % 2 else x / 2 ^ j % 2 := by decide +kernel
theorem gs_F.get {S : Nat → Int32} {o : Nat} {w : Int32} (h : gs_F S o w) {b : Nat} (hb : b < 8) : (w >>> (nI b &&& 31)) &&& 1 = S (o + b) := by
  obtain ⟨x, hx, rfl, hS⟩ := h
  rw [gs_t1 x hx b hb, hS b hb]
theorem gs_F.b01 {S : Nat → Int32} {o : Nat} {w : Int32} (h : gs_F S o w) {b : Nat} (hb : b < 8) : S (o + b) = 0 ∨ S (o + b) = 1 := by
  obtain ⟨x, hx, rfl, hS⟩ := h
  rw [hS b hb]
  have : x / 2 ^ b % 2 < 2 := Nat.mod_lt _ (by decide)
  rcases (show x / 2 ^ b % 2 = 0 ∨ x / 2 ^ b % 2 = 1 by omega) with e | e <;> rw [e]
  · exact Or.inl rfl
  · exact Or.inr rfl
theorem gs_F.oth {S : Nat → Int32} {o : Nat} {w : Int32} (h : gs_F S o w) {i : Nat} {v : Int32} (hi : i < o ∨ o + 8 ≤ i) : gs_F (upd S i v) o w := by
  obtain ⟨x, hx, e, hS⟩ := h
  exact ⟨x, hx, e, fun j hj => by rw [pk_un (by omega)]; exact hS j hj⟩
theorem gs_F.set1 {S : Nat → Int32} {o : Nat} {w : Int32} (h : gs_F S o w) {b : Nat} (hb : b < 8) : gs_F (upd S (o + b) 1) o (w ||| (1 <<< (nI b &&& 31))) := by
  obtain ⟨x, hx, rfl, hS⟩ := h
  refine ⟨x ||| 2 ^ b, (gs_t2 x hx b hb).2, (gs_t2 x hx b hb).1, fun j hj => ?_⟩
  rw [gs_u2 x hx b hb j hj]
  by_cases e : j = b
  · subst e; rw [pk_us, if_pos rfl]; rfl
  · rw [pk_un (by omega), if_neg e]; exact hS j hj
theorem gs_F.set0 {S : Nat → Int32} {o : Nat} {w : Int32} (h : gs_F S o w) {b : Nat} (hb : b < 8) : gs_F (upd S (o + b) 0) o (w &&& ((1 <<< (nI b &&& 31)) ^^^ (-1))) := by
  obtain ⟨x, hx, rfl, hS⟩ := h
  refine ⟨_, Nat.lt_of_le_of_lt (Nat.sub_le _ _) hx, gs_t3 x hx b hb, fun j hj => ?_⟩
  rw [gs_u3 x hx b hb j hj]
  by_cases e : j = b
  · subst e; rw [pk_us, if_pos rfl]; rfl
  · rw [pk_un (by omega), if_neg e]; exact hS j hj
theorem gs_F.tog {S : Nat → Int32} {o : Nat} {w : Int32} (h : gs_F S o w) {b : Nat} (hb : b < 8) : gs_F (upd S (o + b) (1 - S (o + b))) o (w ^^^ (1 <<< (nI b &&& 31))) := by
  obtain ⟨x, hx, rfl, hS⟩ := h
  refine ⟨x ^^^ 2 ^ b, (gs_t4 x hx b hb).2, (gs_t4 x hx b hb).1, fun j hj => ?_⟩
  rw [gs_u4 x hx b hb j hj]
  by_cases e : j = b
  · subst e; rw [pk_us, if_pos rfl, hS j hb]
    have : x / 2 ^ j % 2 < 2 := Nat.mod_lt _ (by decide)
    rcases (show x / 2 ^ j % 2 = 0 ∨ x / 2 ^ j % 2 = 1 by omega) with e | e <;> rw [e] <;> rfl
  · rw [pk_un (by omega), if_neg e]; exact hS j hj
theorem gs_F.congr {S S' : Nat → Int32} {o : Nat} {w : Int32} (h : gs_F S o w) (he : ∀ j, j < 8 → S' (o + j) = S (o + j)) : gs_F S' o w := by
  obtain ⟨x, hx, e, hS⟩ := h
  exact ⟨x, hx, e, fun j hj => by rw [he j hj]; exact hS j hj⟩
def gs_ld (S : Nat → Int32) (b : Nat) : Int32 := if S (35 + b) = 1 then S (3 + b) / 2 else S (3 + b)
def gs_cl (v : Int32) : Int32 := if v < 0 then 0 else if 99999 < v then 99999 else v
def gs_1 (b : Nat) (S : Nat → Int32) : Nat → Int32 := upd S (19 + b) (S (19 + b) - S (51 + b))
def gs_wa (b : Nat) (S : Nat → Int32) : Int32 := gs_cl (S 1 + (if S (27 + b) = 1 then -gs_ld S b else gs_ld S b))
def gs_2 (b : Nat) (S : Nat → Int32) : Nat → Int32 := upd (upd (upd S 1 (gs_wa b S)) (19 + b) (S (11 + b))) (43 + b) 1
abbrev gs_X : Type := (Nat → Int32) × Int32 × Int32
def gs_st (b : Nat) (x : gs_X) : gs_X := if gs_1 b x.1 (51 + b) = 1 ∧ gs_1 b x.1 (19 + b) ≤ 0 ∧ 0 < x.2.1 then (gs_2 b (gs_1 b x.1), x.2.1 - 1, x.2.2 ||| (1 <<< (nI b &&& 31))) else (gs_1 b x.1, x.2.1, x.2.2)
def gs_lp : Nat → gs_X → gs_X
  | 0, x => x
  | k + 1, x => gs_st k (gs_lp k x)
def gs_ran (S : Nat → Int32) (d : Int32) : Int32 := if S 1 < d then S 1 else d
def gs_T (w : Int32) (S : Nat → Int32) : gs_X := gs_lp 8 (S, w, 0)
def gs_min (w d : Int32) (S : Nat → Int32) : Nat → Int32 := upd (upd (gs_T w S).1 1 ((gs_T w S).1 1 - gs_ran (gs_T w S).1 d)) 0 ((gs_T w S).1 0 + 1)
def gs_pk (ar : Int32) (S : Nat → Int32) : Nat → Int32 := upd S 2 (if S 2 < S 1 / ar then S 1 / ar else S 2)
def gs_go (w d ar : Int32) (S : Nat → Int32) : Nat → Int32 := gs_pk ar (gs_min w d S)
/-- what stays true of a row -/
def gs_Ok (S : Nat → Int32) : Prop := (0 ≤ S 1 ∧ S 1 ≤ 99999) ∧ ∀ b, b < 8 → (0 ≤ S (3 + b) ∧ S (3 + b) ≤ 64) ∧ (S (51 + b) = 1 → 1 ≤ S (3 + b) ∧ 1 ≤ S (11 + b) ∧ S (11 + b) ≤ 40) ∧ (S (27 + b) = 0 ∨ S (27 + b) = 1) ∧ (S (35 + b) = 0 ∨ S (35 + b) = 1) ∧ (S (43 + b) = 0 ∨ S (43 + b) = 1) ∧ (S (51 + b) = 0 ∨ S (51 + b) = 1)
