/-! rows over the heap -/
def bq_FL (own : String) (idx ci j : Nat) : Prop := ci < 10 ∧ j < bq_nf ci ∧ Cond.fieldLink own idx (bq_Tn ci j).1 (bq_Tn ci j).2.1 (bq_Tn ci j).2.2.1 ∈ bq_tbl
theorem bq_Rel.put {z : Nat} {D : bq_D} {n a : Nat} {R R' : bq_RR} {I I' : bq_IR} {L L' : bq_LR} {H H1 : Heap} (hR : bq_Rel z D n R I L H) (ha : a < n) (he : va_at D.1 vwCl (z + a, bq_cell D (bq_sh a) (R' a) (I' a) (L' a)) H1) (hz : H1.size = H.size) (oq : ∀ q : Nat, q ≠ z + a → H1[q]? = H[q]?) (h1 : ∀ x, x ≠ a → R' x = R x) (h2 : ∀ x, x ≠ a → I' x = I x) (h3 : ∀ x, x ≠ a → L' x = L x) : bq_Rel z D n R' I' L' H1 := by
  refine ⟨hz.trans hR.1, ?_⟩
  rw [← bq_ws_set h1 h2 h3 rfl]
  exact hR.2.set (bq_ws_D z D n R I L) (bq_ws_get ha) he oq
theorem bq_fl_get {ci j : Nat} {r : Nat → Option Nat} {i : Nat → Int32} {l : Nat → Int64} (h : j < bq_nf ci) : (bq_flds ci r i l)[j]? = some (bq_fv (bq_ty ci j) (r j) (i j) (l j)) := by
  simp [bq_flds, h]
theorem bq_fl_len {ci : Nat} {r : Nat → Option Nat} {i : Nat → Int32} {l : Nat → Int64} : (bq_flds ci r i l).length = bq_nf ci := by simp [bq_flds]
theorem bq_fl_set {ci j : Nat} {r r' : Nat → Option Nat} {i i' : Nat → Int32} {l l' : Nat → Int64} {v : Value} (h : j < bq_nf ci) (hv : v = bq_fv (bq_ty ci j) (r' j) (i' j) (l' j)) (h1 : ∀ x, x ≠ j → r' x = r x) (h2 : ∀ x, x ≠ j → i' x = i x) (h3 : ∀ x, x ≠ j → l' x = l x) : (bq_flds ci r i l).set j v = bq_flds ci r' i' l' := by
  subst hv
  apply List.ext_getElem?
  intro k
  by_cases hk : k < bq_nf ci
  · by_cases hkj : k = j
    · subst hkj
      rw [List.getElem?_set_self (by rw [bq_fl_len]; exact hk), bq_fl_get hk]
    · rw [List.getElem?_set_ne (Ne.symm hkj), bq_fl_get hk, bq_fl_get hk, h1 k hkj, h2 k hkj, h3 k hkj]
  · have e1 : (bq_flds ci r' i' l')[k]? = none := by simp [bq_flds]; omega
    have e2 : ((bq_flds ci r i l).set j (bq_fv (bq_ty ci j) (r' j) (i' j) (l' j)))[k]? = none := by simp [bq_flds]; omega
    rw [e1, e2]
section BqHeap
variable {cc : ByteArray} {own nm : String} {nL z : Nat} {Rm : Room} {A : bq_A} {cells slots pc q n : Nat} {ls : bq_LS} {st : List Value} {R : bq_RR} {I : bq_IR} {L : bq_LR}
theorem bq_obj {D : bq_D} {a ci : Nat} (ho : bq_OB n a ci) : (bq_ws z D n R I L)[a]? = some (z + a, .inr (ci, bq_flds ci (R a) (I a) (L a))) := by
  rw [bq_ws_get ho.1, ho.2]; rfl
theorem bq_get (G : bq_Cx cc own nL z Rm nm A) {a ci j idx : Nat} (hd : decode cc pc = .ok (.getfield idx, 3)) (hp : pc + 3 = q) (hf : bq_FL own idx ci j) (ho : bq_OB n a ci) (k : A cells slots q ls (bq_fv (bq_ty ci j) (R a j) (I a j) (L a j) :: st) n R I L) : A cells slots pc ls (.ref (z + a) :: st) n R I L := by
  obtain ⟨p, l, e, s, m, args, below, meth, c, D, Q, hx, hb, hml, hown, hts, hK, hz, hnm, rfl⟩ := G
  subst hp
  intro H locs arr hR hS hl
  exact va_get (D := D.1) (cl := vwCl) (tys := bq_tys D) hx hb hts (bq_in hf.1) hown hK.1 hR.2 a (bq_obj ho) (bq_cl hf.1) j hf.2.1 (hts _ hf.2.2) (fun _ h => h) (bq_fl_get hf.2.1) hd (k H locs arr hR hS hl)
theorem bq_geti (G : bq_Cx cc own nL z Rm nm A) {a ci j idx : Nat} (hd : decode cc pc = .ok (.getfield idx, 3)) (hp : pc + 3 = q) (hf : bq_FL own idx ci j) (ho : bq_OB n a ci) (ht : bq_ty ci j = .int) (k : A cells slots q ls (.int (I a j) :: st) n R I L) : A cells slots pc ls (.ref (z + a) :: st) n R I L := bq_get G hd hp hf ho (by rw [ht]; exact k)
theorem bq_getl (G : bq_Cx cc own nL z Rm nm A) {a ci j idx : Nat} (hd : decode cc pc = .ok (.getfield idx, 3)) (hp : pc + 3 = q) (hf : bq_FL own idx ci j) (ho : bq_OB n a ci) (ht : bq_ty ci j = .long) (k : A cells slots q ls (.long (L a j) :: st) n R I L) : A cells slots pc ls (.ref (z + a) :: st) n R I L := bq_get G hd hp hf ho (by rw [ht]; exact k)
theorem bq_getr (G : bq_Cx cc own nL z Rm nm A) {a ci j idx b : Nat} (hd : decode cc pc = .ok (.getfield idx, 3)) (hp : pc + 3 = q) (hf : bq_FL own idx ci j) (ho : bq_OB n a ci) (ht : ∀ r i l, bq_fv (bq_ty ci j) r i l = va_rf r) (hr : R a j = some b) (k : A cells slots q ls (.ref b :: st) n R I L) : A cells slots pc ls (.ref (z + a) :: st) n R I L := bq_get G hd hp hf ho (by rw [ht, hr]; exact k)
theorem bq_putG (G : bq_Cx cc own nL z Rm nm A) {a ci j idx : Nat} {v : Value} {R' : bq_RR} {I' : bq_IR} {L' : bq_LR} (hd : decode cc pc = .ok (.putfield idx, 3)) (hp : pc + 3 = q) (hf : bq_FL own idx ci j) (ho : bq_OB n a ci) (hfin : (bq_Tn ci j).2.2.2 = false ∨ ((bq_Tn ci j).2.2.2 = true ∧ nm = "<init>" ∧ (bq_Tn ci j).1 = own)) (hn : narrow (bq_ty ci j) v = v) (hfit : fits (bq_ty ci j) v = true) (hset : (bq_flds ci (R a) (I a) (L a)).set j v = bq_flds ci (R' a) (I' a) (L' a)) (hR1 : ∀ x, x ≠ a → R' x = R x) (hI1 : ∀ x, x ≠ a → I' x = I x) (hL1 : ∀ x, x ≠ a → L' x = L x) (k : A cells slots q ls st n R' I' L') : A cells slots pc ls (v :: .ref (z + a) :: st) n R I L := by
  obtain ⟨p, l, e, s, m, args, below, meth, c, D, Q, hx, hb, hml, hown, hts, hK, hz, hnm, rfl⟩ := G
  subst hp
  intro H locs arr hR hS hl
  obtain ⟨hci, hj, hlink⟩ := hf
  have hap := va_apart (own := own) (D := D.1) (cl := vwCl) (tys := bq_tys D) hts (bq_in hci) (bq_ty ci) (bq_tyok hci) (bq_nm hci) hK.1 (bq_cl hci)
  obtain ⟨r, h1, cell, q1, q2, q3, q4⟩ := hR.2 a _ (bq_obj ho)
  have hr : r = (bq_Rn ci, bq_Tn ci, bq_nf ci) := Option.some.inj (h1.symm.trans (bq_cl hci))
  subst hr
  obtain ⟨hS2, hfc, kC, hkC, hkind⟩ := hK.1.1 ci _ (bq_cl hci)
  obtain ⟨cf, kf, fi, f, hi, hsl⟩ := hS2 j hj
  have hlay := hts _ (bq_in hci _ (u_in_lay hj))
  unfold u_lay at hlay
  have hst := (u_facts hfc hkC (u_lays hts (bq_in hci) hj) hi).1
  have fin : ∀ (H' : Heap) (i0 : Nat), H'[z + a]? = some (cell.setSlot (D.1.2 ci j) v) → H'.size = H.size → (∀ q, q ≠ z + a → H'[q]? = H[q]?) → W p l e Rm s m args below meth c H' (locs ++ [⟨z + a, i0⟩]) cells slots Q (F0 m (pc + 3) arr st) := by
    intro H' i0 e1 e2 e3
    refine k H' _ arr (hR.put ho.1 ?_ e2 e3 hR1 hI1 hL1) (hS.put e2 e3 (Nat.le_add_right z a)) hl
    rw [ho.2]
    show va_at D.1 vwCl (z + a, .inr (ci, bq_flds ci (R' a) (I' a) (L' a))) H'
    rw [← hset]
    exact ⟨_, bq_cl hci, t_OB.to (V := updV (vp_V (bq_flds ci (R a) (I a) (L a))) j v) ⟨_, e1, q2, q3, t_set q4 hap hj v⟩ (fun j0 _ => vp_updV_set (by rw [bq_fl_len]; exact hj) v j0)⟩
  rcases hfin with hfin | ⟨hfin, hini, hdecl⟩
  · rw [if_neg (by rw [hfin]; decide)] at hlay
    have h6 := u_store hfc hkC hkind hlay hi (bq_tyok hci j hj) hn hfit
    refine W.putK hx hb (f := f) ⟨hown, hts _ hlink, ⟨_, _, _, hi⟩, hst⟩ (by rw [q2]; exact h6) q1 q3 (by rw [hsl]; exact k2_hasslot (q4 j hj)) rfl rfl hd fun H' e1 e2 e3 => ?_
    rw [hsl] at e1 ⊢
    exact fin H' _ e1 e2 e3
  · rw [if_pos hfin] at hlay
    have hcf : m.cls = cf := by
      obtain ⟨_, _, c', _, _, _, -, -, hf', -, -, -, hown2, -⟩ := Cond.laysFinal_spec hlay
      have e1 : c' = cf := by have := hi.symm.trans hf'; simp at this; exact this.1.symm
      rw [hdecl] at hown2
      rw [← e1]; exact Option.some.inj (hown.symm.trans hown2)
    have h6 := u_fits hfc hkC hkind (Or.inr hlay) hi (bq_tyok hci j hj) hn hfit
    refine W.putFinK hx hb hown (hts _ hlink) hi hst hcf (hnm.trans hini) (by rw [q2]; exact h6) q1 q3 (by rw [hsl]; exact k2_hasslot (q4 j hj)) rfl rfl hd fun H' e1 e2 e3 => ?_
    rw [hsl] at e1 ⊢
    exact fin H' _ e1 e2 e3
theorem bq_puti (G : bq_Cx cc own nL z Rm nm A) {a ci j idx : Nat} {x : Int32} (hd : decode cc pc = .ok (.putfield idx, 3)) (hp : pc + 3 = q) (hf : bq_FL own idx ci j) (ho : bq_OB n a ci) (ht : bq_ty ci j = .int) (hfin : (bq_Tn ci j).2.2.2 = false) (k : A cells slots q ls st n R (bq_sr I a (upd (I a) j x)) L) : A cells slots pc ls (.int x :: .ref (z + a) :: st) n R I L :=
  bq_putG G hd hp hf ho (Or.inl hfin) (by rw [ht]; rfl) (by rw [ht]; rfl) (bq_fl_set hf.2.1 (by rw [ht, bq_sr_s]; simp [bq_fv, upd]) (fun _ _ => rfl) (fun y hy => by rw [bq_sr_s]; simp [upd, hy]) (fun _ _ => rfl)) (fun _ _ => rfl) (fun y hy => bq_sr_n hy) (fun _ _ => rfl) k
theorem bq_putl (G : bq_Cx cc own nL z Rm nm A) {a ci j idx : Nat} {x : Int64} (hd : decode cc pc = .ok (.putfield idx, 3)) (hp : pc + 3 = q) (hf : bq_FL own idx ci j) (ho : bq_OB n a ci) (ht : bq_ty ci j = .long) (hfin : (bq_Tn ci j).2.2.2 = false) (k : A cells slots q ls st n R I (bq_sr L a (vp_updL (L a) j x))) : A cells slots pc ls (.long x :: .ref (z + a) :: st) n R I L :=
  bq_putG G hd hp hf ho (Or.inl hfin) (by rw [ht]; rfl) (by rw [ht]; rfl) (bq_fl_set hf.2.1 (by rw [ht, bq_sr_s]; simp [bq_fv, vp_updL]) (fun _ _ => rfl) (fun _ _ => rfl) (fun y hy => by rw [bq_sr_s]; simp [vp_updL, hy])) (fun _ _ => rfl) (fun _ _ => rfl) (fun y hy => bq_sr_n hy) k
/-- a final reference, in its constructor -/
theorem bq_putr (G : bq_Cx cc own nL z Rm nm A) {a ci j idx b : Nat} (hd : decode cc pc = .ok (.putfield idx, 3)) (hp : pc + 3 = q) (hf : bq_FL own idx ci j) (ho : bq_OB n a ci) (ht : ∀ r i l, bq_fv (bq_ty ci j) r i l = va_rf r) (hn : narrow (bq_ty ci j) (.ref b) = .ref b) (hfit : fits (bq_ty ci j) (.ref b) = true) (hfin : (bq_Tn ci j).2.2.2 = true ∧ nm = "<init>" ∧ (bq_Tn ci j).1 = own) (k : A cells slots q ls st n (bq_sr R a (va_up (R a) j (some b))) I L) : A cells slots pc ls (.ref b :: .ref (z + a) :: st) n R I L :=
  bq_putG G hd hp hf ho (Or.inr hfin) hn hfit (bq_fl_set hf.2.1 (by rw [ht, bq_sr_s]; simp [va_rf, va_up]) (fun y hy => by rw [bq_sr_s]; simp [va_up, hy]) (fun _ _ => rfl) (fun _ _ => rfl)) (fun y hy => bq_sr_n hy) (fun _ _ => rfl) (fun _ _ => rfl) k
/-! arrays -/
theorem bq_arI {D : bq_D} {a len : Nat} (ho : bq_AR n a 0 len) : (bq_ws z D n R I L)[a]? = some (z + a, .inl (D.2.1 0, len, .inl (I a))) := by
  rw [bq_ws_get ho.1, ho.2]; rfl
theorem bq_arL {D : bq_D} {a len : Nat} (ho : bq_AR n a 1 len) : (bq_ws z D n R I L)[a]? = some (z + a, .inl (D.2.1 1, len, .inr (.inl (L a)))) := by
  rw [bq_ws_get ho.1, ho.2]; rfl
theorem bq_arZ {D : bq_D} {a len : Nat} (ho : bq_AR n a 2 len) : (bq_ws z D n R I L)[a]? = some (z + a, .inl (D.2.1 2, len, .inl (I a))) := by
  rw [bq_ws_get ho.1, ho.2]; rfl
theorem bq_arR {D : bq_D} {a len : Nat} (ho : bq_AR n a 3 len) : (bq_ws z D n R I L)[a]? = some (z + a, .inl (D.2.1 3, len, .inr (.inr (.inr (.inr (R a)))))) := by
  rw [bq_ws_get ho.1, ho.2]; rfl
theorem bq_iald (G : bq_Cx cc own nL z Rm nm A) {a len b : Nat} {i : Int32} (hd : decode cc pc = .ok (.iaload, 1)) (hp : pc + 1 = q) (ho : bq_AR n a 0 len) (hi : i = nI b) (hb : b < len) (hlen : len < 2 ^ 31) (k : A cells slots q ls (.int (I a b) :: st) n R I L) : A cells slots pc ls (.int i :: .ref (z + a) :: st) n R I L := by
  obtain ⟨p, l, e, s, m, args, below, meth, c, D, Q, hx, hbb, hml, hown, hts, hK, hz, hnm, rfl⟩ := G
  subst hp
  subst hi
  intro H locs arr hR hS hl
  refine va_iald (D := D.1) (cl := vwCl) (tys := bq_tys D) hx hbb hK.1 hR.2 a 0 (bq_arI ho) rfl (vp_in_nI hb hlen) hd ?_
  rw [nI_clamp (Nat.lt_trans hb hlen)]
  exact k H locs arr hR hS hl
theorem bq_zald (G : bq_Cx cc own nL z Rm nm A) {a len b : Nat} {i : Int32} (hd : decode cc pc = .ok (.baload, 1)) (hp : pc + 1 = q) (ho : bq_AR n a 2 len) (hi : i = nI b) (hb : b < len) (hlen : len < 2 ^ 31) (k : A cells slots q ls (.int (I a b) :: st) n R I L) : A cells slots pc ls (.int i :: .ref (z + a) :: st) n R I L := by
  obtain ⟨p, l, e, s, m, args, below, meth, c, D, Q, hx, hbb, hml, hown, hts, hK, hz, hnm, rfl⟩ := G
  subst hp
  subst hi
  intro H locs arr hR hS hl
  refine va_zald (D := D.1) (cl := vwCl) (tys := bq_tys D) hx hbb hK.1 hR.2 a 2 (bq_arZ ho) rfl (vp_in_nI hb hlen) hd ?_
  rw [nI_clamp (Nat.lt_trans hb hlen)]
  exact k H locs arr hR hS hl
theorem bq_lald (G : bq_Cx cc own nL z Rm nm A) {a len b : Nat} {i : Int32} (hd : decode cc pc = .ok (.laload, 1)) (hp : pc + 1 = q) (ho : bq_AR n a 1 len) (hi : i = nI b) (hb : b < len) (hlen : len < 2 ^ 31) (k : A cells slots q ls (.long (L a b) :: st) n R I L) : A cells slots pc ls (.int i :: .ref (z + a) :: st) n R I L := by
  obtain ⟨p, l, e, s, m, args, below, meth, c, D, Q, hx, hbb, hml, hown, hts, hK, hz, hnm, rfl⟩ := G
  subst hp
  subst hi
  intro H locs arr hR hS hl
  refine va_lald (D := D.1) (cl := vwCl) (tys := bq_tys D) hx hbb hK.1 hR.2 a 1 (bq_arL ho) rfl (vp_in_nI hb hlen) hd ?_
  rw [nI_clamp (Nat.lt_trans hb hlen)]
  exact k H locs arr hR hS hl
theorem bq_aald (G : bq_Cx cc own nL z Rm nm A) {a len b r : Nat} {i : Int32} (hd : decode cc pc = .ok (.aaload, 1)) (hp : pc + 1 = q) (ho : bq_AR n a 3 len) (hi : i = nI b) (hb : b < len) (hlen : len < 2 ^ 31) (hr : R a b = some r) (k : A cells slots q ls (.ref r :: st) n R I L) : A cells slots pc ls (.int i :: .ref (z + a) :: st) n R I L := by
  obtain ⟨p, l, e, s, m, args, below, meth, c, D, Q, hx, hbb, hml, hown, hts, hK, hz, hnm, rfl⟩ := G
  subst hp
  subst hi
  intro H locs arr hR hS hl
  refine va_aldq (D := D.1) (cl := vwCl) (tys := bq_tys D) hx hbb hK.1 hR.2 a 3 (bq_arR ho) rfl (vp_in_nI hb hlen) hd ?_
  rw [nI_clamp (Nat.lt_trans hb hlen), hr]
  exact k H locs arr hR hS hl
theorem bq_alen (G : bq_Cx cc own nL z Rm nm A) {a len : Nat} (hd : decode cc pc = .ok (.arraylength, 1)) (hp : pc + 1 = q) (ho : bq_AR n a 0 len) (k : A cells slots q ls (.int (nI len) :: st) n R I L) : A cells slots pc ls (.ref (z + a) :: st) n R I L := by
  obtain ⟨p, l, e, s, m, args, below, meth, c, D, Q, hx, hbb, hml, hown, hts, hK, hz, hnm, rfl⟩ := G
  subst hp
  intro H locs arr hR hS hl
  exact va_alen (D := D.1) (cl := vwCl) (tys := bq_tys D) hx hbb hK.1 hR.2 a 0 (bq_arI ho) (ty := .int) rfl rfl hd (k H locs arr hR hS hl)
theorem bq_iast (G : bq_Cx cc own nL z Rm nm A) {a len b : Nat} {i x : Int32} (hd : decode cc pc = .ok (.iastore, 1)) (hp : pc + 1 = q) (ho : bq_AR n a 0 len) (hi : i = nI b) (hb : b < len) (hlen : len < 2 ^ 31) (k : A cells slots q ls st n R (bq_sr I a (upd (I a) b x)) L) : A cells slots pc ls (.int x :: .int i :: .ref (z + a) :: st) n R I L := by
  obtain ⟨p, l, e, s, m, args, below, meth, c, D, Q, hx, hbb, hml, hown, hts, hK, hz, hnm, rfl⟩ := G
  subst hp
  subst hi
  intro H locs arr hR hS hl
  refine W.iast hx hbb (hR.2 a _ (bq_arI ho)) ((hK.1.2 0 _ rfl).1 len (fun j => .int (I a j))) (fun q => by cases q) (by show ¬ (nI b < 0 ∨ (arrV _ _ _).slots.size ≤ _); rw [arrV_size]; exact vp_in_nI hb hlen) rfl rfl hd fun H1 e z1 oq => ?_
  refine k H1 _ arr (hR.put ho.1 ?_ z1 oq (fun _ _ => rfl) (fun y hy => bq_sr_n hy) (fun _ _ => rfl)) (hS.put z1 oq (Nat.le_add_right z a)) hl
  rw [ho.2, bq_sr_s]
  show H1[z + a]? = some (vp_cell _ _)
  rw [e]
  rw [vp_cell_i, vp_cell_i, arrV_store, nI_clamp (Nat.lt_trans hb hlen)]
  congr 2
  funext q
  by_cases hq : q = b
  · subst hq
    simp [updV, upd]
  · simp [updV, upd, hq]
theorem bq_zast (G : bq_Cx cc own nL z Rm nm A) {a len b : Nat} {i x : Int32} (hd : decode cc pc = .ok (.bastore, 1)) (hp : pc + 1 = q) (ho : bq_AR n a 2 len) (hi : i = nI b) (hb : b < len) (hlen : len < 2 ^ 31) (hx01 : vp_nar .boolean x = x ∧ narrow .boolean (.int x) = .int x) (k : A cells slots q ls st n R (bq_sr I a (upd (I a) b x)) L) : A cells slots pc ls (.int x :: .int i :: .ref (z + a) :: st) n R I L := by
  obtain ⟨p, l, e, s, m, args, below, meth, c, D, Q, hx, hbb, hml, hown, hts, hK, hz, hnm, rfl⟩ := G
  subst hp
  subst hi
  intro H locs arr hR hS hl
  refine W.zast hx hbb (hR.2 a _ (bq_arZ ho)) ((hK.1.2 2 _ rfl).1 len (fun j => .int (I a j))) (fun q => by cases q) (by show ¬ (nI b < 0 ∨ (arrV _ _ _).slots.size ≤ _); rw [arrV_size]; exact vp_in_nI hb hlen) rfl rfl hd fun H1 e z1 oq => ?_
  refine k H1 _ arr (hR.put ho.1 ?_ z1 oq (fun _ _ => rfl) (fun y hy => bq_sr_n hy) (fun _ _ => rfl)) (hS.put z1 oq (Nat.le_add_right z a)) hl
  rw [ho.2, bq_sr_s]
  show H1[z + a]? = some (vp_cell _ _)
  rw [e]
  rw [vp_cell_i, vp_cell_i, arrV_store, nI_clamp (Nat.lt_trans hb hlen)]
  congr 2
  funext q
  by_cases hq : q = b
  · subst hq
    simp [updV, upd, hx01.2]
  · simp [updV, upd, hq]
theorem bq_last (G : bq_Cx cc own nL z Rm nm A) {a len b : Nat} {i : Int32} {x : Int64} (hd : decode cc pc = .ok (.lastore, 1)) (hp : pc + 1 = q) (ho : bq_AR n a 1 len) (hi : i = nI b) (hb : b < len) (hlen : len < 2 ^ 31) (k : A cells slots q ls st n R I (bq_sr L a (vp_updL (L a) b x))) : A cells slots pc ls (.long x :: .int i :: .ref (z + a) :: st) n R I L := by
  obtain ⟨p, l, e, s, m, args, below, meth, c, D, Q, hx, hbb, hml, hown, hts, hK, hz, hnm, rfl⟩ := G
  subst hp
  subst hi
  intro H locs arr hR hS hl
  refine W.last hx hbb (hR.2 a _ (bq_arL ho)) ((hK.1.2 1 _ rfl).1 len (fun j => .long (L a j))) (fun q => by cases q) (by show ¬ (nI b < 0 ∨ (arrV _ _ _).slots.size ≤ _); rw [arrV_size]; exact vp_in_nI hb hlen) rfl rfl hd fun H1 e z1 oq => ?_
  refine k H1 _ arr (hR.put ho.1 ?_ z1 oq (fun _ _ => rfl) (fun _ _ => rfl) (fun y hy => bq_sr_n hy)) (hS.put z1 oq (Nat.le_add_right z a)) hl
  rw [ho.2, bq_sr_s]
  show H1[z + a]? = some (vp_cell _ _)
  rw [e]
  rw [vp_cell_l, vp_cell_l, arrV_store, nI_clamp (Nat.lt_trans hb hlen)]
  congr 2
  funext q
  by_cases hq : q = b
  · subst hq
    simp [updV, vp_updL]
  · simp [updV, vp_updL, hq]
/-! calls -/
def bq_CB (own : String) (idx : Nat) (M : bq_M) (np : Nat) : Prop := Cond.methodLink own idx M.1 ∈ bq_tbl ∧ Cond.initialized M.1.cls ∈ bq_tbl ∧ Cond.code M.1 M.2.1 M.2.2.1 M.2.2.2.1 ∈ bq_tbl ∧ (M.1.cls ≠ "java/lang/invoke/MethodHandle" ∧ M.1.cls ≠ "java/lang/invoke/VarHandle" ∧ (parseMethodDescriptor M.1.desc).map (fun d => d.parameters.length) = some np)
def bq_CV (own : String) (idx : Nat) (M : bq_M) (np ci : Nat) : Prop := bq_CB own idx M np ∧ Cond.instanceMethod M.1 ∈ bq_tbl ∧ Cond.selects M.1.cls M.1 M.1 ∈ bq_tbl ∧ ci < 10 ∧ bq_Rn ci = M.1.cls
def bq_CS (own : String) (idx : Nat) (M : bq_M) (np : Nat) : Prop := bq_CB own idx M np ∧ Cond.static M.1 ∈ bq_tbl
def bq_CI (own : String) (idx : Nat) (M : bq_M) (np : Nat) : Prop := bq_CB own idx M np ∧ M.1.name = "<init>" ∧ Cond.instanceMethod M.1 ∈ bq_tbl
def bq_fit (M : bq_M) (Rm : Room) : Prop := M.2.2.2.2.1 + 1 ≤ Rm.frames ∧ 8 + (M.2.2.1 + 11) + M.2.2.2.2.2 ≤ Rm.locals
theorem bq_callB {own : String} {idx : Nat} {M : bq_M} {np mc ms : Nat} {R0 : Room} {s : State} {args : Array Value} (hts : ∀ w ∈ bq_tbl, w.before args s = true) (hC : bq_CB own idx M np) (hf : bq_fit M R0) : CallB R0 s args own idx M.1 M.2.1 M.2.2.1 M.2.2.2.1 (Cond.code M.1 M.2.1 M.2.2.1 M.2.2.2.1 :: bq_tbl) (bq_rm M mc ms) mc ms np :=
  callB_of np hts (bq_goodIn hC.2.2.1) rfl rfl rfl (hts _ hC.2.1) (hts _ hC.1) hC.2.2.2 hf
theorem bq_pre {z : Nat} {D : bq_D} {s : State} {H : Heap} {locs : List Loc} {av : List Value} (hK : bq_KK z D s s.heap) (hS : va_S (fun q => z ≤ q) s.heap H locs) (hR : bq_Rel z D n R I L H) : PreS s H (va_Pc av (fun U => bq_KK z D U U.heap ∧ bq_Rel z D n R I L U.heap)) av := by
  refine ⟨fun a U g mk h => ⟨h.1, h.2.1.call g mk a, h.2.2⟩, fun U hU hW => ⟨rfl, ?_, ?_⟩⟩
  · rw [hU]; exact hK.go hW hS
  · rw [hU]; exact hR
theorem bq_cont {p : Program} {l : Launch} {e : Env} {s : State} {m : MethodId} {args : Array Value} {below : List Frame} {meth : Method} {c : Code} {D : bq_D} {Q : State → Prop} {H : Heap} {locs : List Loc} {arr : Array Slot} {mc ms n' : Nat} {res : Option Value} {R' : bq_RR} {I' : bq_IR} {L' : bq_LR} {rest : List Value}
    (hr : va_Run p l e Rm s m args below meth c H locs cells slots mc ms (F0 m pc arr st) rest (fun st o t => o = .returned res ∧ bq_Rel z D n' R' I' L' t.heap ∧ va_F (fun q => z ≤ q) st t) (fun q => z ≤ q)) (hS : va_S (fun q => z ≤ q) s.heap H locs)
    (kk : ∀ (H1 : Heap) (locs1 : List Loc), bq_Rel z D n' R' I' L' H1 → va_S (fun q => z ≤ q) s.heap H1 locs1 → W p l e Rm s m args below meth c H1 locs1 (cells + mc) (slots + ms) Q (F0 m (pc + 3) arr (res.toList ++ rest))) : W p l e Rm s m args below meth c H locs cells slots Q (F0 m pc arr st) := by
  intro T hT X
  obtain ⟨v, st₀, t, T', L0, h0, X', hL, e1, e2, ⟨hv, hb, hz, hk⟩, stp⟩ := hr T hT X
  cases hv
  rw [h0] at hz hk
  obtain ⟨t2, a1, b1⟩ := kk T'.heap (locs ++ L0) (by rw [e1]; exact hb)
    ⟨Nat.le_trans hS.1 (by rw [e1]; exact hz), fun q h1 h2 => by rw [e1, hk q (Nat.lt_of_lt_of_le h1 hS.1) h2]; exact hS.2.1 q h1 h2, fun q hq => by
      rcases List.mem_append.mp hq with h | h
      · exact hS.2.2 q h
      · exact hL q h⟩ T' rfl X'
  exact ⟨t2, stp t2 a1, b1⟩
theorem bq_recv {D : bq_D} {s : State} {H : Heap} {a ci : Nat} (hK : bq_KK z D s s.heap) (hR : bq_Rel z D n R I L H) (hci : ci < 10) (ho : bq_OB n a ci) : ∃ cell : Cell, H[z + a]? = some cell ∧ cell.vm.isStatics = false ∧ s.vm.findClass (bq_Rn ci) = some cell.cls := va_recv hK.1 hR.2 (bq_cl hci) (bq_obj ho)
section BqCalls
variable {M : bq_M} {np mc ms n' idx : Nat} {res : Option Value} {R' : bq_RR} {I' : bq_IR} {L' : bq_LR} {rest As : List Value}
theorem bq_callv (G : bq_Cx cc own nL z Rm nm A) {a ci : Nat} (hd : decode cc pc = .ok (.invokevirtual idx, 3)) (hp : pc + 3 = q) (hC : bq_CV own idx M np ci) (F : bq_FC M z (.ref (z + a) :: As) n R I L mc ms res n' R' I' L') (hs : st = As.reverse ++ .ref (z + a) :: rest) (ho : bq_OB n a ci) (hnp : As.length = np) (hfit : bq_fit M Rm) (hroom : (rest.map fun v => v.category).sum ≤ 8) (hcs : cells + mc ≤ Rm.cells ∧ slots + ms ≤ Rm.slots) {st' : List Value} (hst : res.toList ++ rest = st') (k : A (cells + mc) (slots + ms) q ls st' n' R' I' L') : A cells slots pc ls st n R I L := by
  obtain ⟨p, l, e, s, m, args, below, meth, c, D, Q, hx, hb, hml, hown, hts, hK, hz, hnm, rfl⟩ := G
  subst hp
  subst hst
  intro H locs arr hR hS hl
  have hpre := bq_pre (av := .ref (z + a) :: As) hK hS hR
  refine bq_cont (va_runV (As := As) (rest := rest) ⟨hx, hb, hml, hown, hts⟩ (F l D) ⟨bq_callB hts hC.1 hfit, hts _ hC.2.1, hts _ hC.2.2.1⟩ ⟨hpre.1, ?_, hpre.2⟩ rfl hnp hl.1 hs (lv_room hroom) hd hcs) hS (fun H1 locs1 hR1 hS1 => k H1 locs1 arr hR1 hS1 hl)
  rw [← hC.2.2.2.2]
  exact bq_recv hK hR hC.2.2.2.1 ho
theorem bq_calls (G : bq_Cx cc own nL z Rm nm A) (hd : decode cc pc = .ok (.invokestatic idx, 3)) (hp : pc + 3 = q) (hC : bq_CS own idx M np) (F : bq_FC M z As n R I L mc ms res n' R' I' L') (hs : st = As.reverse ++ rest) (hnp : As.length = np) (hfit : bq_fit M Rm) (hroom : (rest.map fun v => v.category).sum ≤ 8) (hcs : cells + mc ≤ Rm.cells ∧ slots + ms ≤ Rm.slots) {st' : List Value} (hst : res.toList ++ rest = st') (k : A (cells + mc) (slots + ms) q ls st' n' R' I' L') : A cells slots pc ls st n R I L := by
  obtain ⟨p, l, e, s, m, args, below, meth, c, D, Q, hx, hb, hml, hown, hts, hK, hz, hnm, rfl⟩ := G
  subst hp
  subst hst
  intro H locs arr hR hS hl
  exact bq_cont (va_runS (As := As) (rest := rest) ⟨hx, hb, hml, hown, hts⟩ (F l D) ⟨bq_callB hts hC.1 hfit, hts _ hC.2⟩ (bq_pre (av := As) hK hS hR) rfl hnp hl.1 hs (lv_room hroom) hd hcs) hS (fun H1 locs1 hR1 hS1 => k H1 locs1 arr hR1 hS1 hl)
theorem bq_calli (G : bq_Cx cc own nL z Rm nm A) {a : Nat} (hd : decode cc pc = .ok (.invokespecial idx, 3)) (hp : pc + 3 = q) (hC : bq_CI own idx M np) (hret : M.2.2.2.1 = none) (F : bq_FC M z (.ref (z + a) :: As) n R I L mc ms res n' R' I' L') (hs : st = As.reverse ++ .ref (z + a) :: rest) (hnp : As.length = np) (hfit : bq_fit M Rm) (hroom : (rest.map fun v => v.category).sum ≤ 8) (hcs : cells + mc ≤ Rm.cells ∧ slots + ms ≤ Rm.slots) {st' : List Value} (hst : res.toList ++ rest = st') (k : A (cells + mc) (slots + ms) q ls st' n' R' I' L') : A cells slots pc ls st n R I L := by
  obtain ⟨p, l, e, s, m, args, below, meth, c, D, Q, hx, hb, hml, hown, hts, hK, hz, hnm, rfl⟩ := G
  subst hp
  subst hst
  intro H locs arr hR hS hl
  have hB := bq_callB (mc := mc) (ms := ms) hts hC.1 hfit
  rw [hret] at hB
  have hF := F l D
  rw [hret] at hF
  exact bq_cont (va_runI (As := As) (rest := rest) ⟨hx, hb, hml, hown, hts⟩ hF ⟨hB, hC.2.1, hts _ hC.2.2⟩ (bq_pre (av := .ref (z + a) :: As) hK hS hR) rfl hnp hl.1 hs (lv_room hroom) hd hcs) hS (fun H1 locs1 hR1 hS1 => k H1 locs1 arr hR1 hS1 hl)
end BqCalls
end BqHeap
