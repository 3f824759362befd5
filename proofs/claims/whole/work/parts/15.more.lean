/-! making cells; static arrays; nest calls; switches -/
def bq_Fr (R : bq_RR) (I : bq_IR) (L : bq_LR) (n : Nat) : Prop := ∀ a, n ≤ a → R a = (fun _ => none) ∧ I a = (fun _ => 0) ∧ L a = (fun _ => 0)
theorem bq_Fr.s {R : bq_RR} {I : bq_IR} {L : bq_LR} {n m : Nat} (h : bq_Fr R I L n) (hm : n ≤ m) : bq_Fr R I L m := fun a ha => h a (Nat.le_trans hm ha)
theorem bq_Fr.r {R : bq_RR} {I : bq_IR} {L : bq_LR} {n b : Nat} {f : Nat → Option Nat} (h : bq_Fr R I L n) (hb : b < n) : bq_Fr (bq_sr R b f) I L n := fun a ha => ⟨by rw [bq_sr_n (by omega)]; exact (h a ha).1, (h a ha).2⟩
theorem bq_Fr.i {R : bq_RR} {I : bq_IR} {L : bq_LR} {n b : Nat} {f : Nat → Int32} (h : bq_Fr R I L n) (hb : b < n) : bq_Fr R (bq_sr I b f) L n := fun a ha => ⟨(h a ha).1, by rw [bq_sr_n (by omega)]; exact (h a ha).2.1, (h a ha).2.2⟩
theorem bq_Fr.l {R : bq_RR} {I : bq_IR} {L : bq_LR} {n b : Nat} {f : Nat → Int64} (h : bq_Fr R I L n) (hb : b < n) : bq_Fr R I (bq_sr L b f) n := fun a ha => ⟨(h a ha).1, (h a ha).2.1, by rw [bq_sr_n (by omega)]; exact (h a ha).2.2⟩
theorem bq_ws_push {z : Nat} {D : bq_D} {n : Nat} {R : bq_RR} {I : bq_IR} {L : bq_LR} : bq_ws z D (n + 1) R I L = bq_ws z D n R I L ++ [(z + n, bq_cell D (bq_sh n) (R n) (I n) (L n))] := by
  simp [bq_ws, List.range_succ]
theorem bq_Rel.push {z : Nat} {D : bq_D} {n : Nat} {R : bq_RR} {I : bq_IR} {L : bq_LR} {H H1 : Heap} (hR : bq_Rel z D n R I L H) (hz : H1.size = H.size + 1) (o1 : ∀ q, q < H.size → H1[q]? = H[q]?) (he : va_at D.1 vwCl (z + n, bq_cell D (bq_sh n) (R n) (I n) (L n)) H1) : bq_Rel z D (n + 1) R I L H1 := by
  refine ⟨by rw [hz, hR.1]; omega, ?_⟩
  rw [bq_ws_push]
  refine (hR.2.kept (fun k x hx => o1 x.1 ((hR.2 k x hx).lt))).app (fun k x hx => ?_)
  have hz : k < 1 := (List.getElem?_eq_some_iff.mp hx).1
  rw [show k = 0 by omega] at hx
  cases hx
  exact he
theorem bq_S_push {z : Nat} {H0 H H1 : Heap} {locs : List Loc} (hS : va_S (fun q => z ≤ q) H0 H locs) (hz : H1.size = H.size + 1) (o1 : ∀ q, q < H.size → H1[q]? = H[q]?) : va_S (fun q => z ≤ q) H0 H1 locs := ⟨Nat.le_trans hS.1 (by omega), fun x h1 h2 => (o1 x (Nat.lt_of_lt_of_le h1 hS.1)).trans (hS.2.1 x h1 h2), hS.2.2⟩
theorem bq_def {ci : Nat} (h : ci < 10) : ∀ j, j < bq_nf ci → defaultValue (bq_ty ci j) = bq_fv (bq_ty ci j) none 0 0 := bq_cases (P := fun ci => ∀ j, j < bq_nf ci → defaultValue (bq_ty ci j) = bq_fv (bq_ty ci j) none 0 0) (by decide +kernel) (by decide +kernel) (by decide +kernel) (by decide +kernel) (by decide +kernel) (by decide +kernel) (by decide +kernel) (by decide +kernel) (by decide +kernel) (by decide +kernel) h
section BqMore
variable {cc : ByteArray} {own nm : String} {nL z : Nat} {Rm : Room} {A : bq_A} {cells slots pc q n : Nat} {ls : bq_LS} {st : List Value} {R : bq_RR} {I : bq_IR} {L : bq_LR}
theorem bq_new (G : bq_Cx cc own nL z Rm nm A) {ci idx : Nat} (hd : decode cc pc = .ok (.new idx, 3)) (hp : pc + 3 = q) (hci : ci < 10) (hl0 : Cond.classLink own idx (bq_Rn ci) ∈ bq_tbl) (hin : Cond.instantiable (bq_Rn ci) (bq_nf ci) ∈ bq_tbl) (hini : Cond.initialized (bq_Rn ci) ∈ bq_tbl) (hsh : bq_sh n = .inl ci) (hF : bq_Fr R I L n) (hc : cells + 1 ≤ Rm.cells) (hs : slots + bq_nf ci ≤ Rm.slots) (k : A (cells + 1) (slots + bq_nf ci) q ls (.ref (z + n) :: st) (n + 1) R I L) : A cells slots pc ls st n R I L := by
  obtain ⟨p, l, e, s, m, args, below, meth, c, D, Q, hx, hb, hml, hown, hts, hK, hz, hnm, rfl⟩ := G
  subst hp
  intro H locs arr hR hS hl
  have hKn := hK.1.1 ci _ (bq_cl hci)
  refine W.newcK hx hb hown (hts _ hl0) (hts _ hin) (hts _ hini) rfl hd hc hs hKn.2.1 hR.1 fun H1 kC hkC e1 z1 o1 => ?_
  have z1' : H1.size = H.size + 1 := by rw [z1, hR.1]
  have o1' : ∀ q, q < H.size → H1[q]? = H[q]? := fun q hq => o1 q (by rw [← hR.1]; exact hq)
  refine k H1 locs arr (hR.push z1' o1' ?_) (bq_S_push hS z1' o1') hl
  rw [hsh, (hF n (Nat.le_refl n)).1, (hF n (Nat.le_refl n)).2.1, (hF n (Nat.le_refl n)).2.2]
  refine ⟨_, bq_cl hci, (u_born (bq_ty ci) hts (bq_in hci) hKn hkC e1 (bq_tyok hci)).to (fun j hj => ?_)⟩
  rw [bq_def hci j hj]
  unfold vp_V
  rw [List.getD_eq_getElem?_getD, bq_fl_get hj]
  rfl
theorem bq_newa (G : bq_Cx cc own nL z Rm nm A) {t len : Nat} {i : Int32} {at0 : ArrayType} (hd : decode cc pc = .ok (.newarray at0, 2)) (hp : pc + 2 = q) (hw : Cond.arrayClass (newarray.typeOf at0) ∈ bq_tbl) (hat : (at0 = .int ∧ t = 0) ∨ (at0 = .long ∧ t = 1) ∨ (at0 = .boolean ∧ t = 2)) (hsh : bq_sh n = .inr (t, len)) (hF : bq_Fr R I L n) (hi : i = nI len) (hlen : len < 1000) (hc : cells + 1 ≤ Rm.cells) (hs : slots + len ≤ Rm.slots) (k : A (cells + 1) (slots + len) q ls (.ref (z + n) :: st) (n + 1) R I L) : A cells slots pc ls (.int i :: st) n R I L := by
  obtain ⟨p, l, e, s, m, args, below, meth, c, D, Q, hx, hb, hml, hown, hts, hK, hz, hnm, rfl⟩ := G
  subst hp
  subst hi
  intro H locs arr hR hS hl
  have hbytes : len * componentBytes (newarray.typeOf at0) ≤ 536870912 := by
    rcases hat with ⟨rfl, -⟩ | ⟨rfl, -⟩ | ⟨rfl, -⟩ <;> (simp only [newarray.typeOf, componentBytes]; omega)
  refine va_newaK hx hb (hts _ hw) rfl hd rfl (nI_pos (by omega)) (nI_clamp (by omega)) hbytes hc hs hR.1 fun H1 cA e1 z1 o1 hAr hNm => ?_
  have z1' : H1.size = H.size + 1 := by rw [z1, hR.1]
  have o1' : ∀ q, q < H.size → H1[q]? = H[q]? := fun q hq => o1 q (by rw [← hR.1]; exact hq)
  refine k H1 locs arr (hR.push z1' o1' ?_) (bq_S_push hS z1' o1') hl
  rw [hsh, (hF n (Nat.le_refl n)).1, (hF n (Nat.le_refl n)).2.1, (hF n (Nat.le_refl n)).2.2]
  rcases hat with ⟨rfl, rfl⟩ | ⟨rfl, rfl⟩ | ⟨rfl, rfl⟩
  · have hcA : cA = D.2.1 0 := Option.some.inj (hNm.symm.trans (hK.1.2 0 _ rfl).2)
    subst hcA
    exact e1
  · have hcA : cA = D.2.1 1 := Option.some.inj (hNm.symm.trans (hK.1.2 1 _ rfl).2)
    subst hcA
    exact e1
  · have hcA : cA = D.2.1 2 := Option.some.inj (hNm.symm.trans (hK.1.2 2 _ rfl).2)
    subst hcA
    exact e1
theorem bq_newr (G : bq_Cx cc own nL z Rm nm A) {len idx : Nat} {i : Int32} (hd : decode cc pc = .ok (.anewarray idx, 3)) (hp : pc + 3 = q) (hl0 : Cond.classLink own idx RX5 ∈ bq_tbl) (hsh : bq_sh n = .inr (3, len)) (hF : bq_Fr R I L n) (hi : i = nI len) (hlen : len < 1000) (hc : cells + 1 ≤ Rm.cells) (hs : slots + len ≤ Rm.slots) (k : A (cells + 1) (slots + len) q ls (.ref (z + n) :: st) (n + 1) R I L) : A cells slots pc ls (.int i :: st) n R I L := by
  obtain ⟨p, l, e, s, m, args, below, meth, c, D, Q, hx, hb, hml, hown, hts, hK, hz, hnm, rfl⟩ := G
  subst hp
  subst hi
  intro H locs arr hR hS hl
  have hcl := nI_clamp (n := len) (by omega)
  refine W.anew hx hb hown (hts _ hl0) (va_AO.use hK.2.2.1) rfl hd rfl (nI_pos (by omega)) (by rw [hcl]; omega) hc (by rw [hcl]; exact hs) fun cA kA comp f1 f2 f3 f4 => ?_
  rw [hcl]
  generalize hH1 : H.push ({ cls := cA, slots := Array.replicate len .null, vm := .none } : Cell) = H1
  have z1 : H1.size = H.size + 1 := by rw [← hH1, Array.size_push]
  have e1 : H1[H.size]? = some (arrV cA len (fun _ => .null)) := by rw [← hH1, Array.getElem?_push_size, ← arrV_new]
  have o1 : ∀ q : Nat, q < H.size → H1[q]? = H[q]? := fun q hq => by rw [← hH1, Array.getElem?_push, if_neg (Nat.ne_of_lt hq)]
  obtain ⟨kA', comp', g1, g2, g3, g4⟩ := (hK.1.2 3 _ rfl).2
  have hcA : cA = D.2.1 3 := Option.some.inj (f1.symm.trans g4)
  subst hcA
  have k' := k H1 locs arr (hR.push z1 o1 (by
    rw [hsh, (hF n (Nat.le_refl n)).1, (hF n (Nat.le_refl n)).2.1, (hF n (Nat.le_refl n)).2.2, ← hR.1]
    show H1[H.size]? = some (vp_cell _ _)
    rw [vp_cell_q]
    exact e1)) (bq_S_push hS z1 o1) hl
  rw [← hR.1] at k'
  exact k'
theorem bq_aast (G : bq_Cx cc own nL z Rm nm A) {a len b v : Nat} {i : Int32} (hd : decode cc pc = .ok (.aastore, 1)) (hp : pc + 1 = q) (ho : bq_AR n a 3 len) (hv : bq_OB n v 5) (hi : i = nI b) (hb : b < len) (hlen : len < 2 ^ 31) (k : A cells slots q ls st n (bq_sr R a (va_up (R a) b (some (z + v)))) I L) : A cells slots pc ls (.ref (z + v) :: .int i :: .ref (z + a) :: st) n R I L := by
  obtain ⟨p, l, e, s, m, args, below, meth, c, D, Q, hx, hbb, hml, hown, hts, hK, hz, hnm, rfl⟩ := G
  subst hp
  subst hi
  intro H locs arr hR hS hl
  obtain ⟨r', hr', cellV, g1, g2, g3, -⟩ := hR.2 v _ (bq_obj hv)
  have hcls := (hK.1.1 5 _ (bq_cl (by decide))).2
  obtain ⟨kA, comp, k1, k2, k3, -⟩ := (hK.1.2 3 _ rfl).2
  have hcomp : comp = D.1.1 5 := Option.some.inj (k3.symm.trans hcls.1)
  subst hcomp
  obtain ⟨kC, hkC, -⟩ := hcls.2
  have hcl := nI_clamp (n := b) (Nat.lt_trans hb hlen)
  refine W.aast hx hbb (hR.2 a _ (bq_arR ho)) (fun q h => by cases h) (fun h => by cases h) k1 k2 rfl hkC ⟨nI_pos (Nat.lt_trans hb hlen), by rw [hcl]; show _ < (arrV _ _ _).slots.size; rw [arrV_size]; exact hb⟩ g1 (fun q h => by rw [g3] at h; cases h) (by rw [g2]; exact hkC) (by rw [g2]; exact va_assign hcls) rfl rfl hd fun H1 e z1 oq => ?_
  refine k H1 _ arr (hR.put ho.1 ?_ z1 oq (fun y hy => bq_sr_n hy) (fun _ _ => rfl) (fun _ _ => rfl)) (hS.put z1 oq (Nat.le_add_right z a)) hl
  rw [ho.2, bq_sr_s]
  show H1[z + a]? = some (vp_cell _ _)
  rw [e]
  rw [vp_cell_q, vp_cell_q, arrV_store, hcl]
  congr 2
  funext q
  by_cases hq : q = b
  · subst hq
    simp [updV, va_up, va_rf]
  · simp [updV, va_up, hq]
theorem bq_objInit (G : bq_Cx cc own nL z Rm nm A) {a idx : Nat} (hd : decode cc pc = .ok (.invokespecial idx, 3)) (hp : pc + 3 = q) (hw : Cond.methodLink own idx Lib.objectInit ∈ bq_tbl) (hfr : 1 ≤ Rm.frames) (hlo : (st.map fun v => v.category).sum + 12 ≤ Rm.locals) (k : A cells slots q ls st n R I L) : A cells slots pc ls (.ref a :: st) n R I L := by
  obtain ⟨p, l, e, s, m, args, below, meth, c, D, Q, hx, hb, hml, hown, hts, hK, hz, hnm, rfl⟩ := G
  subst hp
  intro H locs arr hR hS hl
  refine W.objInit hx hb hown (hts _ hw) (hts _ wn_obj) (hts _ wc_obj) (g := F0 m pc arr (.ref a :: st)) rfl (by rw [hml]; exact hl.1) rfl hd hfr (by show 2 * 0 + _ + 12 ≤ _; omega) ?_
  exact k H locs arr hR hS hl
/-- a static array: how its places are read -/
def bq_SR (A : bq_A) (cc : ByteArray) (t len : Nat) (f : Nat → Value) : Prop :=
  (∀ (cells slots pc q n b : Nat) (ls : bq_LS) (st : List Value) (R : bq_RR) (I : bq_IR) (L : bq_LR), decode cc pc = .ok (.iaload, 1) → pc + 1 = q → b < len → A cells slots q ls (f b :: st) n R I L → A cells slots pc ls (.int (nI b) :: .ref t :: st) n R I L) ∧
  (∀ (cells slots pc q n : Nat) (ls : bq_LS) (st : List Value) (R : bq_RR) (I : bq_IR) (L : bq_LR), decode cc pc = .ok (.arraylength, 1) → pc + 1 = q → A cells slots q ls (.int (nI len) :: st) n R I L → A cells slots pc ls (.ref t :: st) n R I L)
theorem bq_gets (G : bq_Cx cc own nL z Rm nm A) {idx len : Nat} {f : Nat → Value} {C fn : String} (hd : decode cc pc = .ok (.getstatic idx, 3)) (hp : pc + 3 = q) (hw : Cond.fieldLink own idx C fn "[I" ∈ bq_tbl) (hwh : (C = RX0 ∧ fn = "AT_FIRST" ∧ len = 5 ∧ f = bq_AF) ∨ (C = RX7 ∧ fn = "LEAST" ∧ len = 8 ∧ f = bq_LE) ∨ (C = RX7 ∧ fn = "GREATEST" ∧ len = 8 ∧ f = bq_GR)) (k : ∀ t : Nat, bq_SR A cc t len f → A cells slots q ls (.ref t :: st) n R I L) : A cells slots pc ls st n R I L := by
  obtain ⟨p, l, e, s, m, args, below, meth, c, D, Q, hx, hb, hml, hown, hts, hK, hz, hnm, rfl⟩ := G
  subst hp
  intro H locs arr hR hS hl
  have key : ∀ (t len : Nat) (f : Nat → Value), len < 2 ^ 31 → va_T .int t len f (fun q => z ≤ q) s s.heap → bq_SR (fun cells slots pc ls st n R I L => ∀ (H : Heap) (locs : List Loc) (arr : Array Slot), bq_Rel z D n R I L H → va_S (fun q => z ≤ q) s.heap H locs → bq_LV arr nL ls → W p l e Rm s m args below meth c H locs cells slots Q (F0 m pc arr st)) cc t len f := by
    intro t len f hlen hT
    refine ⟨?_, ?_⟩
    · intro cells slots pc q n b ls st R I L hd hp hbl kk H locs arr hR hS hl
      subst hp
      refine va_ti hx hb hT hS (vp_in_nI hbl hlen) (v := f b) (by rw [nI_clamp (Nat.lt_trans hbl hlen)]) hd (kk H locs arr hR hS hl)
    · intro cells slots pc q n ls st R I L hd hp kk H locs arr hR hS hl
      subst hp
      exact va_tlen hx hb hT hS rfl hd (kk H locs arr hR hS hl)
  rcases hwh with ⟨rfl, rfl, rfl, rfl⟩ | ⟨rfl, rfl, rfl, rfl⟩ | ⟨rfl, rfl, rfl, rfl⟩
  · exact va_gets hx hb hK.2.2.2.1.1 hS hown (hts _ hw) (fun _ h => h) hd (k _ (key _ _ _ (by decide) hK.2.2.2.1.2) H locs arr hR hS hl)
  · exact va_gets hx hb hK.2.2.2.2.1.1 hS hown (hts _ hw) (fun _ h => h) hd (k _ (key _ _ _ (by decide) hK.2.2.2.2.1.2) H locs arr hR hS hl)
  · exact va_gets hx hb hK.2.2.2.2.2.1.1 hS hown (hts _ hw) (fun _ h => h) hd (k _ (key _ _ _ (by decide) hK.2.2.2.2.2.1.2) H locs arr hR hS hl)
/-- nest mates: bitOf, and the two private constructors -/
theorem bq_callsN (G : bq_Cx cc own nL z Rm nm A) {idx n' mc ms : Nat} {res : Option Value} {R' : bq_RR} {I' : bq_IR} {L' : bq_LR} {rest As : List Value} (hd : decode cc pc = .ok (.invokestatic idx, 3)) (hp : pc + 3 = q) (hw : (own = RX7 ∧ idx = 61) ∨ (own = RX5 ∧ idx = 43)) (F : bq_FC MX8_bitOf z As n R I L mc ms res n' R' I' L') (hs : st = As.reverse ++ rest) (hnp : As.length = 2) (hfit : bq_fit MX8_bitOf Rm) (hroom : (rest.map fun v => v.category).sum ≤ 8) (hcs : cells + mc ≤ Rm.cells ∧ slots + ms ≤ Rm.slots) {st' : List Value} (hst : res.toList ++ rest = st') (k : A (cells + mc) (slots + ms) q ls st' n' R' I' L') : A cells slots pc ls st n R I L := by
  obtain ⟨p, l, e, s, m, args, below, meth, c, D, Q, hx, hb, hml, hown, hts, hK, hz, hnm, rfl⟩ := G
  subst hp
  subst hst
  intro H locs arr hR hS hl
  have hN : va_Nw (.methodLinkNest own idx yX8_bitOf RX8) s := by
    rcases hw with ⟨rfl, rfl⟩ | ⟨rfl, rfl⟩
    · exact hK.2.1.2.2.1
    · exact hK.2.1.2.2.2
  exact bq_cont (va_runSN (As := As) (rest := rest) ⟨hx, hb, hml, hown, hts⟩ (F l D) ⟨va_cnB 2 hts (bq_goodIn wc_X8_bitOf) rfl rfl rfl hN (hts _ wi_X8) ⟨by decide, by decide, by decide +kernel⟩ hfit, hts _ wt_X8_bitOf, trivial⟩ (bq_pre (av := As) hK hS hR) rfl hnp hl.1 hs (lv_room hroom) hd hcs) hS (fun H1 locs1 hR1 hS1 => k H1 locs1 arr hR1 hS1 hl)
theorem bq_calliN (G : bq_Cx cc own nL z Rm nm A) {M : bq_M} {idx n' mc ms a : Nat} {res : Option Value} {R' : bq_RR} {I' : bq_IR} {L' : bq_LR} {rest : List Value} (hd : decode cc pc = .ok (.invokespecial idx, 3)) (hp : pc + 3 = q) (hw : own = RX8 ∧ ((idx = 67 ∧ M = MX1_init) ∨ (idx = 78 ∧ M = MX2_init))) (F : bq_FC M z [.ref (z + a)] n R I L mc ms res n' R' I' L') (hs : st = .ref (z + a) :: rest) (hfit : bq_fit M Rm) (hroom : (rest.map fun v => v.category).sum ≤ 8) (hcs : cells + mc ≤ Rm.cells ∧ slots + ms ≤ Rm.slots) {st' : List Value} (hst : res.toList ++ rest = st') (k : A (cells + mc) (slots + ms) q ls st' n' R' I' L') : A cells slots pc ls st n R I L := by
  obtain ⟨p, l, e, s, m, args, below, meth, c, D, Q, hx, hb, hml, hown, hts, hK, hz, hnm, rfl⟩ := G
  subst hp
  subst hst
  intro H locs arr hR hS hl
  obtain ⟨rfl, ⟨rfl, rfl⟩ | ⟨rfl, rfl⟩⟩ := hw
  · exact bq_cont (va_runIN (As := []) (rest := rest) ⟨hx, hb, hml, hown, hts⟩ (F l D) ⟨va_cnB 0 hts (bq_goodIn wc_X1_init) rfl rfl rfl hK.2.1.1 (hts _ wi_X1) ⟨by decide, by decide, by decide +kernel⟩ hfit, rfl, hts _ wn_X1_init⟩ (bq_pre (av := [.ref (z + a)]) hK hS hR) rfl rfl hl.1 hs (lv_room hroom) hd hcs) hS (fun H1 locs1 hR1 hS1 => k H1 locs1 arr hR1 hS1 hl)
  · exact bq_cont (va_runIN (As := []) (rest := rest) ⟨hx, hb, hml, hown, hts⟩ (F l D) ⟨va_cnB 0 hts (bq_goodIn wc_X2_init) rfl rfl rfl hK.2.1.2.1 (hts _ wi_X2) ⟨by decide, by decide, by decide +kernel⟩ hfit, rfl, hts _ wn_X2_init⟩ (bq_pre (av := [.ref (z + a)]) hK hS hR) rfl rfl hl.1 hs (lv_room hroom) hd hcs) hS (fun H1 locs1 hR1 hS1 => k H1 locs1 arr hR1 hS1 hl)
theorem bq_ifnull (G : bq_Cx cc own nL z Rm nm A) {x : Nat} {off : Int} (hd : decode cc pc = .ok (.ifnull off, 3)) (hp : pc + 3 = q) (k : A cells slots q ls st n R I L) : A cells slots pc ls (.ref x :: st) n R I L := by
  obtain ⟨p, l, e, s, m, args, below, meth, c, D, Q, hx, hb, hml, hown, hts, hK, hz, hnm, rfl⟩ := G
  subst hp
  intro H locs arr hR hS hl
  exact lv_ifnull hx hb hd (k H locs arr hR hS hl)
theorem bq_tswIn (G : bq_Cx cc own nL z Rm nm A) {dflt lo hi : Int} {offs : Array Int} {len : Nat} {x : Int32} {off : Int} {t : Nat} (hd : decode cc pc = .ok (.tableswitch dflt lo hi offs, len)) (h1 : ¬ x.toInt < lo) (h2 : ¬ hi < x.toInt) (ho : offs[(x.toInt - lo).toNat]? = some off) (ht : (pc : Int) + off = (t : Int)) (k : A cells slots t ls st n R I L) : A cells slots pc ls (.int x :: st) n R I L := by
  obtain ⟨p, l, e, s, m, args, below, meth, c, D, Q, hx, hb, hml, hown, hts, hK, hz, hnm, rfl⟩ := G
  intro H locs arr hR hS hl
  exact lv_tableIn hx hb hd h1 h2 ho ht (k H locs arr hR hS hl)
theorem bq_tswOut (G : bq_Cx cc own nL z Rm nm A) {dflt lo hi : Int} {offs : Array Int} {len : Nat} {x : Int32} {t : Nat} (hd : decode cc pc = .ok (.tableswitch dflt lo hi offs, len)) (h : x.toInt < lo ∨ hi < x.toInt) (ht : (pc : Int) + dflt = (t : Int)) (k : A cells slots t ls st n R I L) : A cells slots pc ls (.int x :: st) n R I L := by
  obtain ⟨p, l, e, s, m, args, below, meth, c, D, Q, hx, hb, hml, hown, hts, hK, hz, hnm, rfl⟩ := G
  intro H locs arr hR hS hl
  exact lv_tableOut hx hb hd h ht (k H locs arr hR hS hl)
theorem bq_reti {M : bq_M} {mc ms : Nat} {r r' : Int32} {I' : bq_IR} {L' : bq_LR} (h : A mc ms pc ls [.int r] n R I L) (e1 : r' = r) (e2 : I' = I) (e3 : L' = L) : A mc ms pc ls [.int r'] n R I' L' := by subst e1 e2 e3; exact h
end BqMore
