/-! the law's body: its script -/
def bq_CxS (b N : Nat) (xs : Nat → Int32) (cc : ByteArray) (own : String) (nL z : Nat) (Rm : Room) (nm : String) (A : bq_A) : Prop :=
  ∃ (p : Program) (l : Launch) (e : Env) (s : State) (m : MethodId) (args : Array Value) (below : List Frame) (meth : Method) (c : Code) (D : bq_D) (Q : State → Prop),
    (va_X b N xs s s.heap ∧ b < s.heap.size ∧ b < z) ∧ p.tables.exec = Jvm.exec ∧ c.code = cc ∧ c.maxLocals = nL ∧ s.vm.findClass own = some m.cls ∧ (∀ w ∈ bq_tbl, w.before args s = true) ∧ bq_KK z D s s.heap ∧ z ≤ s.heap.size ∧ meth.name = nm ∧
    A = fun cells slots pc ls st n R I L => ∀ (H : Heap) (locs : List Loc) (arr : Array Slot), bq_Rel z D n R I L H → va_S (fun q => z ≤ q) s.heap H locs → bq_LV arr nL ls → W p l e Rm s m args below meth c H locs cells slots Q (F0 m pc arr st)
section BqScr
variable {b N : Nat} {xs : Nat → Int32} {cc : ByteArray} {own nm : String} {nL z : Nat} {Rm : Room} {A : bq_A} {cells slots pc q n : Nat} {ls : bq_LS} {st : List Value} {R : bq_RR} {I : bq_IR} {L : bq_LR}
theorem bq_CxS.cx (G : bq_CxS b N xs cc own nL z Rm nm A) : bq_Cx cc own nL z Rm nm A := by
  obtain ⟨p, l, e, s, m, args, below, meth, c, D, Q, _, h⟩ := G
  exact ⟨p, l, e, s, m, args, below, meth, c, D, Q, h⟩
theorem bq_sld (G : bq_CxS b N xs cc own nL z Rm nm A) {k : Nat} {x : Int32} (hd : decode cc pc = .ok (.iaload, 1)) (hp : pc + 1 = q) (hxk : x = nI k) (hk : k < N) (hN : N < 2 ^ 31) (kk : A cells slots q ls (.int (xs k) :: st) n R I L) : A cells slots pc ls (.int x :: .ref b :: st) n R I L := by
  obtain ⟨p, l, e, s, m, args, below, meth, c, D, Q, ⟨hX, hb1, hb2⟩, hx, hb, hml, hown, hts, hK, hz, hnm, rfl⟩ := G
  subst hp
  subst hxk
  intro H locs arr hR hS hl
  refine va_sld hx hb hX hb1 (Nat.not_le.mpr hb2) hS (vp_in_nI hk hN) hd ?_
  rw [nI_clamp (by omega)]
  exact kk H locs arr hR hS hl
theorem bq_slen (G : bq_CxS b N xs cc own nL z Rm nm A) (hd : decode cc pc = .ok (.arraylength, 1)) (hp : pc + 1 = q) (kk : A cells slots q ls (.int (nI N) :: st) n R I L) : A cells slots pc ls (.ref b :: st) n R I L := by
  obtain ⟨p, l, e, s, m, args, below, meth, c, D, Q, ⟨hX, hb1, hb2⟩, hx, hb, hml, hown, hts, hK, hz, hnm, rfl⟩ := G
  subst hp
  intro H locs arr hR hS hl
  exact va_slen hx hb hX hb1 (Nat.not_le.mpr hb2) hS hd (kk H locs arr hR hS hl)
end BqScr
