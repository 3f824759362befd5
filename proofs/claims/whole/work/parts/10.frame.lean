/-! The abstract state: cells z, z+1, .. of known kinds; their refs R, ints I, longs L. -/
abbrev bq_K : Type := Nat ⊕ (Nat × Nat)
abbrev bq_IR : Type := Nat → Nat → Int32
abbrev bq_LR : Type := Nat → Nat → Int64
abbrev bq_RR : Type := Nat → Nat → Option Nat
abbrev bq_LS : Type := List (Option Value)
abbrev bq_D : Type := va_G × (Nat → ClassId) × (Nat → Nat)
def bq_kinds : List bq_K := [.inl 8, .inl 3, .inr (0, 200), .inl 7, .inr (0, 3),
  .inl 0, .inr (0, 5), .inl 5, .inr (0, 8), .inr (0, 8), .inr (0, 8),
  .inl 0, .inr (0, 5), .inl 5, .inr (0, 8), .inr (0, 8), .inr (0, 8),
  .inl 5, .inr (0, 8), .inr (0, 8), .inr (0, 8),
  .inl 5, .inr (0, 8), .inr (0, 8), .inr (0, 8),
  .inl 6, .inr (3, 8),
  .inl 5, .inr (0, 8), .inr (0, 8), .inr (0, 8), .inl 5, .inr (0, 8), .inr (0, 8), .inr (0, 8),
  .inl 5, .inr (0, 8), .inr (0, 8), .inr (0, 8), .inl 5, .inr (0, 8), .inr (0, 8), .inr (0, 8),
  .inl 5, .inr (0, 8), .inr (0, 8), .inr (0, 8), .inl 5, .inr (0, 8), .inr (0, 8), .inr (0, 8),
  .inl 5, .inr (0, 8), .inr (0, 8), .inr (0, 8), .inl 5, .inr (0, 8), .inr (0, 8), .inr (0, 8),
  .inr (3, 2),
  .inl 5, .inr (0, 8), .inr (0, 8), .inr (0, 8), .inl 5, .inr (0, 8), .inr (0, 8), .inr (0, 8),
  .inr (2, 2),
  .inl 4, .inr (0, 4), .inr (0, 4),
  .inl 1, .inr (1, 10), .inl 2,
  .inl 9, .inr (0, 200), .inr (0, 32), .inr (0, 32), .inr (0, 59), .inr (0, 472), .inr (0, 118), .inr (2, 2), .inr (0, 8), .inr (0, 59)]
def bq_sh (a : Nat) : bq_K := bq_kinds.getD a (.inr (9, 0))
def bq_nf (ci : Nat) : Nat := match ci with | 0 => 3 | 1 => 2 | 2 => 1 | 3 => 2 | 4 => 3 | 5 => 12 | 6 => 3 | 7 => 6 | 8 => 13 | _ => 20
def bq_Rn (ci : Nat) : String := match ci with | 0 => RX0 | 1 => RX1 | 2 => RX2 | 3 => RX3 | 4 => RX4 | 5 => RX5 | 6 => RX6 | 7 => RX7 | 8 => RX8 | _ => RX9
def bq_Tn (ci : Nat) : u_T := match ci with | 0 => TX0 | 1 => TX1 | 2 => TX2 | 3 => TX3 | 4 => TX4 | 5 => TX5 | 6 => TX6 | 7 => TX7 | 8 => TX8 | _ => TX9
def bq_ty (ci : Nat) : Nat → FieldType := match ci with | 0 => tyX0 | 1 => tyX1 | 2 => tyX2 | 3 => tyX3 | 4 => tyX4 | 5 => tyX5 | 6 => tyX6 | 7 => tyX7 | 8 => tyX8 | _ => tyX9
theorem bq_cases {P : Nat → Prop} (h0 : P 0) (h1 : P 1) (h2 : P 2) (h3 : P 3) (h4 : P 4) (h5 : P 5) (h6 : P 6) (h7 : P 7) (h8 : P 8) (h9 : P 9) {ci : Nat} (h : ci < 10) : P ci := by
  match ci, h with
  | 0, _ => exact h0
  | 1, _ => exact h1
  | 2, _ => exact h2
  | 3, _ => exact h3
  | 4, _ => exact h4
  | 5, _ => exact h5
  | 6, _ => exact h6
  | 7, _ => exact h7
  | 8, _ => exact h8
  | 9, _ => exact h9
  | n + 10, h => omega
theorem bq_cl {ci : Nat} (h : ci < 10) : vwCl[ci]? = some (bq_Rn ci, bq_Tn ci, bq_nf ci) := bq_cases (P := fun ci => vwCl[ci]? = some (bq_Rn ci, bq_Tn ci, bq_nf ci)) rfl rfl rfl rfl rfl rfl rfl rfl rfl rfl h
theorem bq_tyok {ci : Nat} (h : ci < 10) : ∀ k, k < bq_nf ci → parseFieldDescriptor (bq_Tn ci k).2.2.1 = some (bq_ty ci k) := bq_cases (P := fun ci => ∀ k, k < bq_nf ci → parseFieldDescriptor (bq_Tn ci k).2.2.1 = some (bq_ty ci k)) tyX0_ok tyX1_ok tyX2_ok tyX3_ok tyX4_ok tyX5_ok tyX6_ok tyX7_ok tyX8_ok tyX9_ok h
theorem bq_nm {ci : Nat} (h : ci < 10) : ∀ a, a < bq_nf ci → ∀ b, b < bq_nf ci → a ≠ b → (bq_Tn ci a).2.1 ≠ (bq_Tn ci b).2.1 := bq_cases (P := fun ci => ∀ a, a < bq_nf ci → ∀ b, b < bq_nf ci → a ≠ b → (bq_Tn ci a).2.1 ≠ (bq_Tn ci b).2.1) nmX0 nmX1 nmX2 nmX3 nmX4 nmX5 nmX6 nmX7 nmX8 nmX9 h
def bq_tbl : List Cond := lw_tbl.filter goodWord
theorem bq_mem {w : Cond} (h : w ∈ lw_tbl) (g : goodWord w = true) : w ∈ bq_tbl := List.mem_filter.mpr ⟨h, g⟩
set_option maxRecDepth 100000 in
theorem bq_in0 : ∀ w ∈ wsX00, w ∈ bq_tbl := by decide +kernel
set_option maxRecDepth 100000 in
theorem bq_in1 : ∀ w ∈ wsX10, w ∈ bq_tbl := by decide +kernel
set_option maxRecDepth 100000 in
theorem bq_in2 : ∀ w ∈ wsX20, w ∈ bq_tbl := by decide +kernel
set_option maxRecDepth 100000 in
theorem bq_in3 : ∀ w ∈ wsX30, w ∈ bq_tbl := by decide +kernel
set_option maxRecDepth 100000 in
theorem bq_in4 : ∀ w ∈ wsX40, w ∈ bq_tbl := by decide +kernel
set_option maxRecDepth 100000 in
theorem bq_in5 : ∀ w ∈ wsX50, w ∈ bq_tbl := by decide +kernel
set_option maxRecDepth 100000 in
theorem bq_in6 : ∀ w ∈ wsX60, w ∈ bq_tbl := by decide +kernel
set_option maxRecDepth 100000 in
theorem bq_in7 : ∀ w ∈ wsX70, w ∈ bq_tbl := by decide +kernel
set_option maxRecDepth 100000 in
theorem bq_in8 : ∀ w ∈ wsX80, w ∈ bq_tbl := by decide +kernel
set_option maxRecDepth 100000 in
theorem bq_in9 : ∀ w ∈ wsX90, w ∈ bq_tbl := by decide +kernel
theorem bq_in {ci : Nat} (h : ci < 10) : ∀ w ∈ u_ws (bq_Rn ci) (bq_Tn ci) (bq_nf ci), w ∈ bq_tbl := bq_cases (P := fun ci => ∀ w ∈ u_ws (bq_Rn ci) (bq_Tn ci) (bq_nf ci), w ∈ bq_tbl) bq_in0 bq_in1 bq_in2 bq_in3 bq_in4 bq_in5 bq_in6 bq_in7 bq_in8 bq_in9 h
theorem bq_good {w : Cond} (h : w ∈ bq_tbl) : (w.onTables && w.keeps) = true ∨ ∃ ty, w = .arrayClass ty := good_of_word (List.mem_filter.mp h).2
theorem bq_goodIn {w : Cond} (h : w ∈ bq_tbl) : GoodIn bq_tbl (w :: bq_tbl) := fun v hv => by
  rcases List.mem_cons.mp hv with e | e
  · subst e; exact ⟨h, bq_good h⟩
  · exact ⟨e, bq_good e⟩
/-! cells -/
def bq_fv (t : FieldType) (r : Option Nat) (i : Int32) (l : Int64) : Value := match t with | .int => .int i | .long => .long l | _ => va_rf r
def bq_flds (ci : Nat) (r : Nat → Option Nat) (i : Nat → Int32) (l : Nat → Int64) : List Value := (List.range (bq_nf ci)).map (fun j => bq_fv (bq_ty ci j) (r j) (i j) (l j))
def bq_cell (D : bq_D) (k : bq_K) (r : Nat → Option Nat) (i : Nat → Int32) (l : Nat → Int64) : va_E := match k with
  | .inl ci => .inr (ci, bq_flds ci r i l)
  | .inr (0, n) => .inl (D.2.1 0, n, .inl i)
  | .inr (1, n) => .inl (D.2.1 1, n, .inr (.inl l))
  | .inr (2, n) => .inl (D.2.1 2, n, .inl i)
  | .inr (_, n) => .inl (D.2.1 3, n, .inr (.inr (.inr (.inr r))))
def bq_ws (z : Nat) (D : bq_D) (n : Nat) (R : bq_RR) (I : bq_IR) (L : bq_LR) : va_W := (List.range n).map (fun a => (z + a, bq_cell D (bq_sh a) (R a) (I a) (L a)))
def bq_sr {α : Type} (I : Nat → α) (a : Nat) (f : α) : Nat → α := fun x => if x = a then f else I x
theorem bq_sr_s {α : Type} (I : Nat → α) (a : Nat) (f : α) : bq_sr I a f a = f := if_pos rfl
theorem bq_sr_n {α : Type} {I : Nat → α} {a b : Nat} {f : α} (h : b ≠ a) : bq_sr I a f b = I b := if_neg h
theorem bq_sr_sr {α : Type} (I : Nat → α) (a : Nat) (f g : α) : bq_sr (bq_sr I a f) a g = bq_sr I a g := by
  funext x; unfold bq_sr; split <;> rfl
theorem bq_sr_c {α : Type} {I : Nat → α} {a b : Nat} {f g : α} (h : a ≠ b) : bq_sr (bq_sr I a f) b g = bq_sr (bq_sr I b g) a f := by
  funext x; unfold bq_sr; by_cases h1 : x = a <;> by_cases h2 : x = b <;> simp [h1, h2] <;> (intro h3; omega)
theorem bq_sr_id {α : Type} (I : Nat → α) (a : Nat) : bq_sr I a (I a) = I := by
  funext x; unfold bq_sr; split
  · rename_i h; rw [h]
  · rfl
theorem bq_ws_get {z : Nat} {D : bq_D} {n a : Nat} {R : bq_RR} {I : bq_IR} {L : bq_LR} (h : a < n) : (bq_ws z D n R I L)[a]? = some (z + a, bq_cell D (bq_sh a) (R a) (I a) (L a)) := by
  simp [bq_ws, h]
theorem bq_ws_lt {z : Nat} {D : bq_D} {n a : Nat} {R : bq_RR} {I : bq_IR} {L : bq_LR} {q : Nat × va_E} (h : (bq_ws z D n R I L)[a]? = some q) : a < n ∧ q = (z + a, bq_cell D (bq_sh a) (R a) (I a) (L a)) := by
  have h1 : a < n := by
    have := (List.getElem?_eq_some_iff.mp h).1
    simpa [bq_ws] using this
  rw [bq_ws_get h1] at h
  exact ⟨h1, (Option.some.inj h).symm⟩
theorem bq_ws_D (z : Nat) (D : bq_D) (n : Nat) (R : bq_RR) (I : bq_IR) (L : bq_LR) : va_D (fun q => z ≤ q) (bq_ws z D n R I L) := by
  refine ⟨fun i j p q hi hj e => ?_, fun k q hk => ?_⟩
  · obtain ⟨-, rfl⟩ := bq_ws_lt hi
    obtain ⟨-, rfl⟩ := bq_ws_lt hj
    simp only at e
    omega
  · obtain ⟨-, rfl⟩ := bq_ws_lt hk
    exact Nat.le_add_right _ _
theorem bq_ws_set {z : Nat} {D : bq_D} {n a : Nat} {R R' : bq_RR} {I I' : bq_IR} {L L' : bq_LR} (hR : ∀ x, x ≠ a → R' x = R x) (hI : ∀ x, x ≠ a → I' x = I x) (hL : ∀ x, x ≠ a → L' x = L x) {e : va_E} (he : e = bq_cell D (bq_sh a) (R' a) (I' a) (L' a)) : (bq_ws z D n R I L).set a (z + a, e) = bq_ws z D n R' I' L' := by
  subst he
  apply List.ext_getElem?
  intro k
  by_cases hk : k < n
  · by_cases hka : k = a
    · subst hka
      rw [List.getElem?_set_self (by simpa [bq_ws] using hk), bq_ws_get hk]
    · rw [List.getElem?_set_ne (Ne.symm hka), bq_ws_get hk, bq_ws_get hk, hR k hka, hI k hka, hL k hka]
  · have h1 : (bq_ws z D n R' I' L')[k]? = none := by simp [bq_ws]; omega
    have h2 : ((bq_ws z D n R I L).set a (z + a, bq_cell D (bq_sh a) (R' a) (I' a) (L' a)))[k]? = none := by simp [bq_ws]; omega
    rw [h1, h2]
/-! what the heap is -/
def bq_Rel (z : Nat) (D : bq_D) (n : Nat) (R : bq_RR) (I : bq_IR) (L : bq_LR) (H : Heap) : Prop := H.size = z + n ∧ va_P D.1 vwCl (bq_ws z D n R I L) H
def bq_tys (D : bq_D) : List (ClassId × FieldType) := [(D.2.1 0, .int), (D.2.1 1, .long), (D.2.1 2, .boolean), (D.2.1 3, .object "BroomFlood$Moment")]
def bq_OB (n a ci : Nat) : Prop := a < n ∧ bq_sh a = .inl ci
def bq_AR (n a t len : Nat) : Prop := a < n ∧ bq_sh a = .inr (t, len)
/-! locals -/
def bq_at : bq_LS → Nat → Option Value
  | [], _ => none
  | a :: _, 0 => a
  | _ :: l, k + 1 => bq_at l k
def bq_put : bq_LS → Nat → Option Value → bq_LS
  | [], _, _ => []
  | _ :: l, 0, v => v :: l
  | a :: l, k + 1, v => a :: bq_put l k v
def bq_nl : bq_LS → Nat → Bool
  | [], _ => true
  | _ :: _, 0 => true
  | some (.long _) :: _, 1 => false
  | some (.double _) :: _, 1 => false
  | _ :: _, 1 => true
  | _ :: l, k + 2 => bq_nl l (k + 1)
def bq_LV (arr : Array Slot) (nL : Nat) (ls : bq_LS) : Prop := arr.size = nL ∧ lv_wf arr ∧ ∀ (k : Nat) (v : Value), bq_at ls k = some v → arr[k]? = some (.val v)
theorem bq_at_put : ∀ (ls : bq_LS) (i k : Nat) (v : Option Value) (w : Value), bq_at (bq_put ls i v) k = some w → (k = i ∧ v = some w) ∨ (k ≠ i ∧ bq_at ls k = some w)
  | [], i, k, v, w, h => by simp [bq_put, bq_at] at h
  | a :: l, 0, 0, v, w, h => Or.inl ⟨rfl, h⟩
  | a :: l, 0, k + 1, v, w, h => Or.inr ⟨by omega, h⟩
  | a :: l, i + 1, 0, v, w, h => Or.inr ⟨by omega, h⟩
  | a :: l, i + 1, k + 1, v, w, h => by
    rcases bq_at_put l i k v w h with ⟨e, h1⟩ | ⟨e, h1⟩
    · exact Or.inl ⟨by omega, h1⟩
    · exact Or.inr ⟨by omega, h1⟩
theorem bq_nl_at : ∀ (ls : bq_LS) (k : Nat) (v : Value), bq_nl ls (k + 1) = true → bq_at ls k = some v → v.category = 1
  | [], k, v, _, h => by simp [bq_at] at h
  | a :: l, 0, v, hn, h => by
    have h' : a = some v := h
    subst h'
    cases v <;> first | rfl | (simp [bq_nl] at hn)
  | a :: l, k + 1, v, hn, h => bq_nl_at l k v (by
      cases k <;> (unfold bq_nl at hn; exact hn)) h
theorem bq_LV.at {arr : Array Slot} {nL : Nat} {ls : bq_LS} (h : bq_LV arr nL ls) {k : Nat} {v : Value} (hk : bq_at ls k = some v) : arr[k]? = some (.val v) := h.2.2 k v hk
theorem bq_has {arr : Array Slot} {nL : Nat} {ls : bq_LS} (h : bq_LV arr nL ls) (l : List (Nat × Value)) (hl : ∀ q ∈ l, bq_at ls q.1 = some q.2) : lv_has arr nL l := ⟨h.1, h.2.1, fun q hq => h.2.2 _ _ (hl q hq)⟩
theorem bq_store1 {arr : Array Slot} {nL : Nat} {ls : bq_LS} {i : Nat} {v : Value} (h : bq_LV arr nL ls) (hi : i < nL) (hn : bq_nl ls i = true) (hc : v.category = 1) : ∃ arr', storeLocals arr i v = some arr' ∧ bq_LV arr' nL (bq_put ls i (some v)) := by
  have key : ∀ l : List (Nat × Value), (∀ q ∈ l, bq_at ls q.1 = some q.2) → ∃ arr', storeLocals arr i v = some arr' ∧ lv_has arr' nL ((i, v) :: l.filter (fun q => !(q.1 == i) && !(q.1 + 1 == i && q.2.category == 2))) := fun l hl => lv_store1 (bq_has h l hl) hi hc
  obtain ⟨arr', e, h1⟩ := key [] (fun q hq => by cases hq)
  refine ⟨arr', e, h1.1, h1.2.1, fun k w hk => ?_⟩
  rcases bq_at_put ls i k (some v) w hk with ⟨e1, e2⟩ | ⟨e1, e2⟩
  · cases e2; subst e1
    exact h1.2.2 (k, v) List.mem_cons_self
  · obtain ⟨arr2, e3, h2⟩ := key [(k, w)] (fun q hq => by simp at hq; subst hq; exact e2)
    have : arr2 = arr' := Option.some.inj (e3.symm.trans e)
    subst this
    refine h2.2.2 (k, w) (List.mem_cons_of_mem _ (List.mem_filter.mpr ⟨by simp, ?_⟩))
    simp only [Bool.and_eq_true, Bool.not_eq_true', beq_eq_false_iff_ne, Bool.and_eq_false_iff]
    refine ⟨e1, ?_⟩
    by_cases hki : k + 1 = i
    · right
      subst hki
      rw [bq_nl_at ls k w hn e2]; decide
    · left; simpa using hki
theorem bq_store2 {arr : Array Slot} {nL : Nat} {ls : bq_LS} {i : Nat} {v : Value} (h : bq_LV arr nL ls) (hi : i + 1 < nL) (hn : bq_nl ls i = true) (hc : v.category = 2) : ∃ arr', storeLocals arr i v = some arr' ∧ bq_LV arr' nL (bq_put (bq_put ls i (some v)) (i + 1) none) := by
  have key : ∀ l : List (Nat × Value), (∀ q ∈ l, bq_at ls q.1 = some q.2) → ∃ arr', storeLocals arr i v = some arr' ∧ lv_has arr' nL ((i, v) :: l.filter (fun q => !(q.1 == i) && (!(q.1 == i + 1) && !(q.1 + 1 == i && q.2.category == 2)))) := fun l hl => lv_store2 (bq_has h l hl) hi hc
  obtain ⟨arr', e, h1⟩ := key [] (fun q hq => by cases hq)
  refine ⟨arr', e, h1.1, h1.2.1, fun k w hk => ?_⟩
  rcases bq_at_put _ (i + 1) k none w hk with ⟨e1, e2⟩ | ⟨e0, hk⟩
  · cases e2
  rcases bq_at_put ls i k (some v) w hk with ⟨e1, e2⟩ | ⟨e1, e2⟩
  · cases e2; subst e1
    exact h1.2.2 (k, v) List.mem_cons_self
  · obtain ⟨arr2, e3, h2⟩ := key [(k, w)] (fun q hq => by simp at hq; subst hq; exact e2)
    have : arr2 = arr' := Option.some.inj (e3.symm.trans e)
    subst this
    refine h2.2.2 (k, w) (List.mem_cons_of_mem _ (List.mem_filter.mpr ⟨by simp, ?_⟩))
    simp only [Bool.and_eq_true, Bool.not_eq_true', beq_eq_false_iff_ne, Bool.and_eq_false_iff]
    refine ⟨e1, e0, ?_⟩
    by_cases hki : k + 1 = i
    · right
      subst hki
      rw [bq_nl_at ls k w hn e2]; decide
    · left; simpa using hki
