/-! constructors -/
def bq_FK (M : bq_M) (z : Nat) (av : List Value) (n : Nat) (R : bq_RR) (I : bq_IR) (L : bq_LR) (mc ms n' : Nat) (post : bq_RR → bq_IR → bq_LR → Prop) : Prop :=
  ∀ (l : Launch) (D : bq_D), Met l M.1 (Cond.code M.1 M.2.1 M.2.2.1 M.2.2.2.1 :: bq_tbl) (bq_rm M mc ms) (va_Pc av (fun U => bq_KK z D U U.heap ∧ bq_Rel z D n R I L U.heap))
    (fun _ st o t => (∃ (R' : bq_RR) (I' : bq_IR) (L' : bq_LR), o = .returned none ∧ post R' I' L' ∧ bq_Rel z D n' R' I' L' t.heap) ∧ va_F (fun q => z ≤ q) st t) mc ms (fun q => z ≤ q)
theorem bq_FKof {M : bq_M} {z : Nat} {av : List Value} {n : Nat} {R : bq_RR} {I : bq_IR} {L : bq_LR} {mc ms n' : Nat} {post : bq_RR → bq_IR → bq_LR → Prop} (ls0 : bq_LS) (hls : bq_pad M.2.2.1 (bq_fl av) = ls0) (hlen : (lg_sl av).length ≤ M.2.2.1) (hy : plainFor M.1 = true) (hty : M.2.2.2.1 = none)
    (h : ∀ A : bq_A, bq_Cx M.2.1 M.1.cls M.2.2.1 z (bq_rm M mc ms) M.1.name A → (∀ (pc : Nat) (ls : bq_LS) (R' : bq_RR) (I' : bq_IR) (L' : bq_LR), decode M.2.1 pc = .ok (.return_, 1) → post R' I' L' → A mc ms pc ls [] n' R' I' L') → A 0 0 0 ls0 [] n R I L) : bq_FK M z av n R I L mc ms n' post := by
  intro l D
  refine bq_ofW (cc := M.2.1) (maxL := M.2.2.1) (ret := M.2.2.2.1) hy rfl ?_
  intro p e s m args below meth c s₁ B hml hv
  obtain ⟨rfl, hKK, hRel⟩ := hv
  have hts := atoms_spec (ws := Cond.code M.1 M.2.1 M.2.2.1 M.2.2.2.1 :: bq_tbl) B.pre
  have hown : s.vm.findClass M.1.cls = some m.cls := findClass_of_methodNamed B.named
  have hr := B.returns
  have hin : meth.name = M.1.name := (name_of_methodNamed B.named B.method).1
  have hz : z ≤ s.heap.size := by rw [hRel.1]; exact Nat.le_add_right _ _
  have hl := lv_entry av (n := M.2.2.1) hlen
  rw [lg_entry_eq]
  generalize (lg_sl av ++ List.replicate (M.2.2.1 - (lg_sl av).length) Slot.unset).toArray = arr at hl ⊢
  have hLV : bq_LV arr M.2.2.1 ls0 := by
    refine ⟨hl.1, hl.2.1, fun k v hk => ?_⟩
    refine hl.2.2 (k, v) ?_
    have h2 : bq_at (bq_fl av) k = some v := bq_pad_at _ _ _ _ (by rw [hls]; exact hk)
    have h3 := bq_ent_at av 0 k v h2
    rwa [Nat.zero_add] at h3
  refine h _ ⟨p, l, e, s, m, av.toArray, below, meth, c, D, MQ below (fun _ st o t => (∃ (R' : bq_RR) (I' : bq_IR) (L' : bq_LR), o = .returned none ∧ post R' I' L' ∧ bq_Rel z D n' R' I' L' t.heap) ∧ va_F (fun q => z ≤ q) st t) av.toArray s mc ms (fun q => z ≤ q), B.exec, B.bytes, hml, hown, fun w hw => hts w (List.mem_cons_of_mem _ hw), hKK, hz, hin, rfl⟩ ?_ s.heap [] arr hRel va_S.rf hLV
  intro pc ls R' I' L' hd hpost H locs arr hR hS hl
  exact W.vret B.exec B.bytes (hr.trans hty) (fun t ht hW => ⟨⟨R', I', L', rfl, hpost, by rw [ht]; exact hR⟩, hS.F ht⟩) hS.2.2 hd
theorem bq_contK {Rm : Room} {z cells slots pc mc ms n' : Nat} {st : List Value} {p : Program} {l : Launch} {e : Env} {s : State} {m : MethodId} {args : Array Value} {below : List Frame} {meth : Method} {c : Code} {D : bq_D} {Q : State → Prop} {H : Heap} {locs : List Loc} {arr : Array Slot} {post : bq_RR → bq_IR → bq_LR → Prop} {rest : List Value}
    (hr : va_Run p l e Rm s m args below meth c H locs cells slots mc ms (F0 m pc arr st) rest (fun st o t => (∃ (R' : bq_RR) (I' : bq_IR) (L' : bq_LR), o = .returned none ∧ post R' I' L' ∧ bq_Rel z D n' R' I' L' t.heap) ∧ va_F (fun q => z ≤ q) st t) (fun q => z ≤ q)) (hS : va_S (fun q => z ≤ q) s.heap H locs)
    (kk : ∀ (R' : bq_RR) (I' : bq_IR) (L' : bq_LR), post R' I' L' → ∀ (H1 : Heap) (locs1 : List Loc), bq_Rel z D n' R' I' L' H1 → va_S (fun q => z ≤ q) s.heap H1 locs1 → W p l e Rm s m args below meth c H1 locs1 (cells + mc) (slots + ms) Q (F0 m (pc + 3) arr rest)) : W p l e Rm s m args below meth c H locs cells slots Q (F0 m pc arr st) := by
  intro T hT X
  obtain ⟨v, st₀, t, T', L0, h0, X', hL, e1, e2, ⟨⟨R', I', L', hv, hp, hb⟩, hz, hk⟩, stp⟩ := hr T hT X
  cases hv
  rw [h0] at hz hk
  obtain ⟨t2, a1, b1⟩ := kk R' I' L' hp T'.heap (locs ++ L0) (by rw [e1]; exact hb)
    ⟨Nat.le_trans hS.1 (by rw [e1]; exact hz), fun q h1 h2 => by rw [e1, hk q (Nat.lt_of_lt_of_le h1 hS.1) h2]; exact hS.2.1 q h1 h2, fun q hq => by
      rcases List.mem_append.mp hq with h | h
      · exact hS.2.2 q h
      · exact hL q h⟩ T' rfl X'
  exact ⟨t2, stp t2 a1, b1⟩
section BqKons
variable {cc : ByteArray} {own nm : String} {nL z : Nat} {Rm : Room} {A : bq_A} {cells slots pc q n : Nat} {ls : bq_LS} {st : List Value} {R : bq_RR} {I : bq_IR} {L : bq_LR}
theorem bq_calliK (G : bq_Cx cc own nL z Rm nm A) {M : bq_M} {np mc ms n' idx a : Nat} {post : bq_RR → bq_IR → bq_LR → Prop} {rest As : List Value} (hd : decode cc pc = .ok (.invokespecial idx, 3)) (hp : pc + 3 = q) (hC : bq_CI own idx M np) (hret : M.2.2.2.1 = none) (F : bq_FK M z (.ref (z + a) :: As) n R I L mc ms n' post) (hs : st = As.reverse ++ .ref (z + a) :: rest) (hnp : As.length = np) (hfit : bq_fit M Rm) (hroom : (rest.map fun v => v.category).sum ≤ 8) (hcs : cells + mc ≤ Rm.cells ∧ slots + ms ≤ Rm.slots) (k : ∀ (R' : bq_RR) (I' : bq_IR) (L' : bq_LR), post R' I' L' → A (cells + mc) (slots + ms) q ls rest n' R' I' L') : A cells slots pc ls st n R I L := by
  obtain ⟨p, l, e, s, m, args, below, meth, c, D, Q, hx, hb, hml, hown, hts, hK, hz, hnm, rfl⟩ := G
  subst hp
  intro H locs arr hR hS hl
  have hB := bq_callB (mc := mc) (ms := ms) hts hC.1 hfit
  rw [hret] at hB
  have hF := F l D
  rw [hret] at hF
  exact bq_contK (va_runI (As := As) (rest := rest) ⟨hx, hb, hml, hown, hts⟩ hF ⟨hB, hC.2.1, hts _ hC.2.2⟩ (bq_pre (av := .ref (z + a) :: As) hK hS hR) rfl hnp hl.1 hs (lv_room hroom) hd hcs) hS (fun R' I' L' hp H1 locs1 hR1 hS1 => k R' I' L' hp H1 locs1 arr hR1 hS1 hl)
theorem bq_nameR {P : bq_RR → Prop} (hR : P R) (k : ∀ R' : bq_RR, P R' → A cells slots pc ls st n R' I L) : A cells slots pc ls st n R I L := k R hR
theorem bq_nameL2 {P : bq_LR → Prop} (hL : P L) (k : ∀ L' : bq_LR, P L' → A cells slots pc ls st n R I L') : A cells slots pc ls st n R I L := k L hL
theorem bq_nrm {cells' slots' n' : Nat} (e1 : cells = cells') (e2 : slots = slots') (e3 : n = n') (k : A cells' slots' pc ls st n' R I L) : A cells slots pc ls st n R I L := by subst e1 e2 e3; exact k
end BqKons
theorem kr_mr {R : bq_RR} {z a : Nat} (h : R a = fun _ => none) : bq_sr (bq_sr (bq_sr R a (va_up (R a) 3 (some (z + (a + 1))))) a (va_up (bq_sr R a (va_up (R a) 3 (some (z + (a + 1)))) a) 4 (some (z + (a + 1 + 1))))) a (va_up (bq_sr (bq_sr R a (va_up (R a) 3 (some (z + (a + 1))))) a (va_up (bq_sr R a (va_up (R a) 3 (some (z + (a + 1)))) a) 4 (some (z + (a + 1 + 1)))) a) 5 (some (z + (a + 1 + 1 + 1)))) = bq_sr R a (bq_mr z a) := by
  rw [bq_sr_s, bq_sr_s, bq_sr_sr, bq_sr_sr, h]
  congr 1
  funext j
  unfold va_up bq_mr
  by_cases h3 : j = 3
  · subst h3; rfl
  · by_cases h4 : j = 4
    · subst h4; rfl
    · by_cases h5 : j = 5
      · subst h5; rfl
      · simp [h3, h4, h5]
set_option maxHeartbeats 1000000 in
set_option maxRecDepth 100000 in
theorem c_X5_init {z : Nat} {R : bq_RR} {I : bq_IR} {L : bq_LR} {a : Nat} (hF : bq_Fr R I L (a + 1)) (hR : R a = fun _ => none) (ho : bq_sh a = .inl 5) (h1 : bq_sh (a + 1) = .inr (0, 8)) (h2 : bq_sh (a + 2) = .inr (0, 8)) (h3 : bq_sh (a + 3) = .inr (0, 8)) : bq_FC MX5_init z [.ref (z + a)] (a + 1) R I L 3 24 none (a + 4) (bq_sr R a (bq_mr z a)) (I) (L) := by
  refine bq_ofV [some (.ref (z + a))] rfl (Nat.le_of_ble_eq_true rfl) (by decide) rfl ?_
  intro A G hret
  have G : bq_Cx cX5_init RX5 1 z (bq_rm MX5_init 3 24) "<init>" A := G
  have hob : ∀ k, a < k → bq_OB k a 5 := fun k hk => ⟨hk, ho⟩
  refine bq_aload_n (q := 1) G rfl dX5_init_0 rfl ?_
  refine bq_objInit (q := 4) G dX5_init_1 rfl wm_X5_3 (Nat.le_of_ble_eq_true rfl) (Nat.le_of_ble_eq_true rfl) ?_
  refine bq_aload_n (q := 5) G rfl dX5_init_4 rfl ?_
  refine bq_bipush (q := 7) (v := 8) G (by decide) dX5_init_5 rfl ?_
  refine bq_newa (q := 9) G dX5_init_7 rfl wy_int (Or.inl ⟨rfl, rfl⟩) h1 hF rfl (by decide) (Nat.le_of_ble_eq_true rfl) (Nat.le_of_ble_eq_true rfl) ?_
  refine bq_putr (q := 12) G dX5_init_9 rfl fl_X5_9 (hob _ (by omega)) (fun _ _ _ => rfl) rfl rfl ⟨rfl, rfl, rfl⟩ ?_
  refine bq_aload_n (q := 13) G rfl dX5_init_12 rfl ?_
  refine bq_bipush (q := 15) (v := 8) G (by decide) dX5_init_13 rfl ?_
  refine bq_newa (q := 17) G dX5_init_15 rfl wy_int (Or.inl ⟨rfl, rfl⟩) h2 ((hF.s (by omega)).r (by omega)) rfl (by decide) (Nat.le_of_ble_eq_true rfl) (Nat.le_of_ble_eq_true rfl) ?_
  refine bq_putr (q := 20) G dX5_init_17 rfl fl_X5_15 (hob _ (by omega)) (fun _ _ _ => rfl) rfl rfl ⟨rfl, rfl, rfl⟩ ?_
  refine bq_aload_n (q := 21) G rfl dX5_init_20 rfl ?_
  refine bq_bipush (q := 23) (v := 8) G (by decide) dX5_init_21 rfl ?_
  refine bq_newa (q := 25) G dX5_init_23 rfl wy_int (Or.inl ⟨rfl, rfl⟩) h3 (((hF.s (by omega)).r (by omega)).r (by omega)) rfl (by decide) (Nat.le_of_ble_eq_true rfl) (Nat.le_of_ble_eq_true rfl) ?_
  refine bq_putr (q := 28) G dX5_init_25 rfl fl_X5_18 (hob _ (by omega)) (fun _ _ _ => rfl) rfl rfl ⟨rfl, rfl, rfl⟩ ?_
  rw [kr_mr hR]
  exact hret _ _ dX5_init_28
set_option maxHeartbeats 1000000 in
set_option maxRecDepth 100000 in
theorem c_X1_init {z : Nat} {R : bq_RR} {I : bq_IR} {L : bq_LR}   : bq_FC MX1_init z [.ref (z + 72)] 73 R I L 0 0 none 73 R (I) (bq_sr L 72 (vp_updL (L 72) 1 1)) := by
  refine bq_ofV [some (.ref (z + 72))] rfl (Nat.le_of_ble_eq_true rfl) (by decide) rfl ?_
  intro A G hret
  have G : bq_Cx cX1_init RX1 1 z (bq_rm MX1_init 0 0) "<init>" A := G
  refine bq_aload_n (q := 1) G rfl dX1_init_0 rfl ?_
  refine bq_objInit (q := 4) G dX1_init_1 rfl wm_X1_1 (Nat.le_of_ble_eq_true rfl) (Nat.le_of_ble_eq_true rfl) ?_
  refine bq_aload_n (q := 5) G rfl dX1_init_4 rfl ?_
  refine bq_lconst (q := 6) (v := 1) G (by decide) dX1_init_5 rfl ?_
  refine bq_putl (q := 9) G dX1_init_6 rfl fl_X1_7 (by first | assumption | exact ⟨Nat.le_of_ble_eq_true rfl, rfl⟩) rfl rfl ?_
  exact hret _ _ dX1_init_9
set_option maxHeartbeats 1000000 in
set_option maxRecDepth 100000 in
theorem c_X2_init {z : Nat} {R : bq_RR} {I : bq_IR} {L : bq_LR}   : bq_FC MX2_init z [.ref (z + 74)] 75 R I L 0 0 none 75 R (I) (L) := by
  refine bq_ofV [some (.ref (z + 74))] rfl (Nat.le_of_ble_eq_true rfl) (by decide) rfl ?_
  intro A G hret
  have G : bq_Cx cX2_init RX2 1 z (bq_rm MX2_init 0 0) "<init>" A := G
  refine bq_aload_n (q := 1) G rfl dX2_init_0 rfl ?_
  refine bq_objInit (q := 4) G dX2_init_1 rfl wm_X2_1 (Nat.le_of_ble_eq_true rfl) (Nat.le_of_ble_eq_true rfl) ?_
  exact hret _ _ dX2_init_4
theorem kr_ring {z i o : Nat} : va_up (fun j => if j < i then some (z + (o + 4 * j)) else none) i (some (z + (o + 4 * i))) = fun j => if j < i + 1 then some (z + (o + 4 * j)) else none := by
  funext j
  show (if j = i then some (z + (o + 4 * i)) else (if j < i then some (z + (o + 4 * j)) else none)) = if j < i + 1 then some (z + (o + 4 * j)) else none
  by_cases h : j = i
  · rw [if_pos h, if_pos (show j < i + 1 by omega), h]
  · rw [if_neg h]
    by_cases h2 : j < i
    · rw [if_pos h2, if_pos (show j < i + 1 by omega)]
    · rw [if_neg h2, if_neg (show ¬ j < i + 1 by omega)]
theorem kr_1 {R : bq_RR} {a j b : Nat} : bq_sr R a (va_up (R a) j (some b)) a = va_up (R a) j (some b) := bq_sr_s _ _ _
set_option maxHeartbeats 1000000 in
set_option maxRecDepth 100000 in
theorem c_X3_init {z : Nat} {R : bq_RR} {I : bq_IR} {L : bq_LR}  (hF : bq_Fr R I L 2) : bq_FC MX3_init z [.ref (z + 1)] 2 R I L 1 200 none 3 (bq_sr R 1 (va_up (R 1) 0 (some (z + 2)))) (I) (L) := by
  refine bq_ofV [some (.ref (z + 1))] rfl (Nat.le_of_ble_eq_true rfl) (by decide) rfl ?_
  intro A G hret
  have G : bq_Cx cX3_init RX3 1 z (bq_rm MX3_init 1 200) "<init>" A := G
  refine bq_aload_n (q := 1) G rfl dX3_init_0 rfl ?_
  refine bq_objInit (q := 4) G dX3_init_1 rfl wm_X3_1 (Nat.le_of_ble_eq_true rfl) (Nat.le_of_ble_eq_true rfl) ?_
  refine bq_aload_n (q := 5) G rfl dX3_init_4 rfl ?_
  refine bq_sipush (q := 8) (v := 200) G (by decide) dX3_init_5 rfl ?_
  refine bq_newa (q := 10) G dX3_init_8 rfl wy_int (Or.inl ⟨rfl, rfl⟩) rfl (by assumption) rfl (by decide) (Nat.le_of_ble_eq_true rfl) (Nat.le_of_ble_eq_true rfl) ?_
  refine bq_putr (q := 13) G dX3_init_10 rfl fl_X3_9 (by first | assumption | exact ⟨Nat.le_of_ble_eq_true rfl, rfl⟩) (fun _ _ _ => rfl) rfl rfl ⟨rfl, rfl, rfl⟩ ?_
  exact hret _ _ dX3_init_13
set_option maxHeartbeats 1000000 in
set_option maxRecDepth 100000 in
theorem c_X7_init {z : Nat} {R : bq_RR} {I : bq_IR} {L : bq_LR}  (hF : bq_Fr R I L 4) : bq_FC MX7_init z [.ref (z + 3)] 4 R I L 1 3 none 5 (bq_sr R 3 (va_up (R 3) 0 (some (z + 4)))) (I) (L) := by
  refine bq_ofV [some (.ref (z + 3))] rfl (Nat.le_of_ble_eq_true rfl) (by decide) rfl ?_
  intro A G hret
  have G : bq_Cx cX7_init RX7 1 z (bq_rm MX7_init 1 3) "<init>" A := G
  refine bq_aload_n (q := 1) G rfl dX7_init_0 rfl ?_
  refine bq_objInit (q := 4) G dX7_init_1 rfl wm_X7_3 (Nat.le_of_ble_eq_true rfl) (Nat.le_of_ble_eq_true rfl) ?_
  refine bq_aload_n (q := 5) G rfl dX7_init_4 rfl ?_
  refine bq_iconst (q := 6) (v := 3) G (by decide) dX7_init_5 rfl ?_
  refine bq_newa (q := 8) G dX7_init_6 rfl wy_int (Or.inl ⟨rfl, rfl⟩) rfl (by assumption) rfl (by decide) (Nat.le_of_ble_eq_true rfl) (Nat.le_of_ble_eq_true rfl) ?_
  refine bq_putr (q := 11) G dX7_init_8 rfl fl_X7_11 (by first | assumption | exact ⟨Nat.le_of_ble_eq_true rfl, rfl⟩) (fun _ _ _ => rfl) rfl rfl ⟨rfl, rfl, rfl⟩ ?_
  exact hret _ _ dX7_init_11
set_option maxHeartbeats 1000000 in
set_option maxRecDepth 100000 in
theorem c_X4_init {z : Nat} {R : bq_RR} {I : bq_IR} {L : bq_LR}  (hF : bq_Fr R I L 70) : bq_FC MX4_init z [.ref (z + 69)] 70 R I L 2 8 none 72 (bq_sr R 69 (va_up (va_up (R 69) 0 (some (z + 70))) 1 (some (z + 71)))) (I) (L) := by
  refine bq_ofV [some (.ref (z + 69))] rfl (Nat.le_of_ble_eq_true rfl) (by decide) rfl ?_
  intro A G hret
  have G : bq_Cx cX4_init RX4 1 z (bq_rm MX4_init 2 8) "<init>" A := G
  refine bq_aload_n (q := 1) G rfl dX4_init_0 rfl ?_
  refine bq_objInit (q := 4) G dX4_init_1 rfl wm_X4_1 (Nat.le_of_ble_eq_true rfl) (Nat.le_of_ble_eq_true rfl) ?_
  refine bq_aload_n (q := 5) G rfl dX4_init_4 rfl ?_
  refine bq_iconst (q := 6) (v := 4) G (by decide) dX4_init_5 rfl ?_
  refine bq_newa (q := 8) G dX4_init_6 rfl wy_int (Or.inl ⟨rfl, rfl⟩) rfl (by assumption) rfl (by decide) (Nat.le_of_ble_eq_true rfl) (Nat.le_of_ble_eq_true rfl) ?_
  refine bq_putr (q := 11) G dX4_init_8 rfl fl_X4_9 (by first | assumption | exact ⟨Nat.le_of_ble_eq_true rfl, rfl⟩) (fun _ _ _ => rfl) rfl rfl ⟨rfl, rfl, rfl⟩ ?_
  refine bq_aload_n (q := 12) G rfl dX4_init_11 rfl ?_
  refine bq_iconst (q := 13) (v := 4) G (by decide) dX4_init_12 rfl ?_
  refine bq_newa (q := 15) G dX4_init_13 rfl wy_int (Or.inl ⟨rfl, rfl⟩) rfl ((hF.s (by decide)).r (by decide)) rfl (by decide) (Nat.le_of_ble_eq_true rfl) (Nat.le_of_ble_eq_true rfl) ?_
  refine bq_putr (q := 18) G dX4_init_15 rfl fl_X4_13 (by first | assumption | exact ⟨Nat.le_of_ble_eq_true rfl, rfl⟩) (fun _ _ _ => rfl) rfl rfl ⟨rfl, rfl, rfl⟩ ?_
  rw [bq_sr_s, bq_sr_sr]
  exact hret _ _ dX4_init_18
def bq_cr (z c : Nat) : Nat → Option Nat := fun j => if j = 0 then some (z + (c + 1)) else if j = 1 then some (z + (c + 2)) else none
set_option maxHeartbeats 4000000 in
set_option maxRecDepth 100000 in
theorem c_X0_init {z : Nat} {R : bq_RR} {I : bq_IR} {L : bq_LR} {c : Nat} (hF : bq_Fr R I L (c + 1)) (hR : R c = fun _ => none) (ho : bq_sh c = .inl 0) (h1 : bq_sh (c + 1) = .inr (0, 5)) (h2 : bq_sh (c + 2) = .inl 5) (h3 : bq_sh (c + 2 + 1) = .inr (0, 8)) (h4 : bq_sh (c + 2 + 2) = .inr (0, 8)) (h5 : bq_sh (c + 2 + 3) = .inr (0, 8)) : bq_FK MX0_init z [.ref (z + c)] (c + 1) R I L 5 41 (c + 6) (fun R' I' L' => (R' c = bq_cr z c ∧ R' (c + 2) = bq_mr z (c + 2) ∧ ∀ x, x ≠ c → x ≠ c + 2 → R' x = R x) ∧ ((∀ j, j < 5 → I' (c + 1) j = cf_s j) ∧ I' c 2 = 0 ∧ (bq_MC I' (c + 2) (fun _ => 0) ∧ I' (c + 2) 0 = 0 ∧ I' (c + 2) 2 = 0) ∧ ∀ x, (x < c ∨ c + 5 < x) → I' x = I x) ∧ L' = L) := by
  refine bq_FKof [some (.ref (z + c))] rfl (Nat.le_of_ble_eq_true rfl) (by decide) rfl ?_
  intro A G hret
  have G : bq_Cx cX0_init RX0 1 z (bq_rm MX0_init 5 41) "<init>" A := G
  have hob : ∀ k, c < k → bq_OB k c 0 := fun k hk => ⟨hk, ho⟩
  have hF2 : bq_Fr (bq_sr R c (va_up (R c) 0 (some (z + (c + 1))))) I L (c + 1 + 1) := (hF.s (by omega)).r (by omega)
  refine bq_aload_n (q := 1) G rfl dX0_init_0 rfl ?_
  refine bq_objInit (q := 4) G dX0_init_1 rfl wm_X0_1 (Nat.le_of_ble_eq_true rfl) (Nat.le_of_ble_eq_true rfl) ?_
  refine bq_aload_n (q := 5) G rfl dX0_init_4 rfl ?_
  refine bq_iconst (q := 6) (v := 5) G (by decide) dX0_init_5 rfl ?_
  refine bq_newa (q := 8) G dX0_init_6 rfl wy_int (Or.inl ⟨rfl, rfl⟩) h1 hF rfl (by decide) (Nat.le_of_ble_eq_true rfl) (Nat.le_of_ble_eq_true rfl) ?_
  refine bq_putr (q := 11) G dX0_init_8 rfl fl_X0_9 (hob _ (by omega)) (fun _ _ _ => rfl) rfl rfl ⟨rfl, rfl, rfl⟩ ?_
  refine bq_aload_n (q := 12) G rfl dX0_init_11 rfl ?_
  refine bq_new (q := 15) (ci := 5) G dX0_init_12 rfl (by decide) wl_X0_13 wa_X5 wi_X5 h2 hF2 (Nat.le_of_ble_eq_true rfl) (Nat.le_of_ble_eq_true rfl) ?_
  refine bq_dup (q := 16) G rfl dX0_init_15 rfl ?_
  refine bq_calli (q := 19) (n' := c + 6) G dX0_init_16 rfl cl_X0_15 rfl (c_X5_init (a := c + 2) (hF2.s (by omega)) ((hF2 (c + 2) (by omega)).1) h2 h3 h4 h5) rfl rfl ⟨Nat.le_of_ble_eq_true rfl, Nat.le_of_ble_eq_true rfl⟩ (Nat.le_of_ble_eq_true rfl) ⟨Nat.le_of_ble_eq_true rfl, Nat.le_of_ble_eq_true rfl⟩ rfl ?_
  refine bq_putr (q := 22) G dX0_init_19 rfl fl_X0_16 (hob _ (by omega)) (fun _ _ _ => rfl) rfl rfl ⟨rfl, rfl, rfl⟩ ?_
  refine bq_aload_n (q := 23) G rfl dX0_init_22 rfl ?_
  refine bq_nameR (P := fun R' => R' c = bq_cr z c ∧ R' (c + 2) = bq_mr z (c + 2) ∧ ∀ x, x ≠ c → x ≠ c + 2 → R' x = R x) ⟨?_, ?_, ?_⟩ (fun R' hR' => ?_)
  · rw [bq_sr_s, bq_sr_n (by omega), bq_sr_s, hR]
    funext j
    unfold va_up bq_cr
    by_cases h1 : j = 1
    · subst h1; rfl
    · by_cases h0 : j = 0
      · subst h0; rfl
      · simp [h0, h1]
  · rw [bq_sr_n (by omega), bq_sr_s]
  · intro x a b
    rw [bq_sr_n a, bq_sr_n b, bq_sr_n a]
  · obtain ⟨r1, r2, r3⟩ := hR'
    have hCe : bq_Ce z (c + 6) R' c := ⟨hob _ (by omega), ⟨by omega, h1⟩, by rw [r1]; rfl, by rw [r1]; rfl, ⟨by omega, h2⟩, ⟨by omega, h3⟩, ⟨by omega, h4⟩, ⟨by omega, h5⟩, by rw [r2]; rfl, by rw [r2]; rfl, by rw [r2]; rfl⟩
    refine bq_callvV (q := 26) G dX0_init_23 rfl cl_X0_20 (c_X0_tellNothing hCe) rfl (hob _ (by omega)) rfl ⟨Nat.le_of_ble_eq_true rfl, Nat.le_of_ble_eq_true rfl⟩ (Nat.le_of_ble_eq_true rfl) ⟨Nat.le_of_ble_eq_true rfl, Nat.le_of_ble_eq_true rfl⟩ (fun I23 L23 h23 => ?_)
    obtain ⟨⟨g1, g2, g3, g4⟩, rfl⟩ := h23
    refine hret _ _ _ _ _ dX0_init_26 ⟨⟨r1, r2, r3⟩, ⟨g1, g2, g3, fun x hx => g4 x (by omega) (by omega) (by omega)⟩, rfl⟩
set_option maxHeartbeats 4000000 in
set_option maxRecDepth 100000 in
theorem c_X6_init {z : Nat} {R : bq_RR} {I : bq_IR} {L : bq_LR}  (hF : bq_Fr R I L 26) (hR : R 25 = fun _ => none) : bq_FK MX6_init z [.ref (z + 25)] 26 R I L 33 296 59 (fun R' I' L' => ((∀ x, 25 ≤ x → x < 59 → R' x = bq_Rf z x) ∧ (∀ x, x < 25 → R' x = R x) ∧ ∀ x, 59 ≤ x → R' x = fun _ => none) ∧ I' = I ∧ L' = L) := by
  refine bq_FKof [some (.ref (z + 25)), none] rfl (Nat.le_of_ble_eq_true rfl) (by decide) rfl ?_
  intro A G hret
  have G : bq_Cx cX6_init RX6 2 z (bq_rm MX6_init 33 296) "<init>" A := G
  refine bq_aload_n (q := 1) G rfl dX6_init_0 rfl ?_
  refine bq_objInit (q := 4) G dX6_init_1 rfl wm_X6_1 (Nat.le_of_ble_eq_true rfl) (Nat.le_of_ble_eq_true rfl) ?_
  refine bq_aload_n (q := 5) G rfl dX6_init_4 rfl ?_
  refine bq_bipush (q := 7) (v := 8) G (by decide) dX6_init_5 rfl ?_
  refine bq_newr (q := 10) G dX6_init_7 rfl wl_X6_9 rfl hF rfl (by decide) (Nat.le_of_ble_eq_true rfl) (Nat.le_of_ble_eq_true rfl) ?_
  refine bq_putr (q := 13) G dX6_init_10 rfl fl_X6_11 (by first | assumption | exact ⟨Nat.le_of_ble_eq_true rfl, rfl⟩) (fun _ _ _ => rfl) rfl rfl ⟨rfl, rfl, rfl⟩ ?_
  refine bq_iconst (q := 14) (v := 0) G (by decide) dX6_init_13 rfl ?_
  refine bq_istore_n (q := 15) (ls' := [_, _]) G dX6_init_14 rfl (by decide) rfl rfl ?_
  refine bq_nameR (P := fun R' => R' 25 = bq_Rf z 25 ∧ (R' 26 = fun j => if j < 0 then some (z + (27 + 4 * j)) else none) ∧ (∀ x, x < 25 → R' x = R x) ∧ (∀ x, 27 ≤ x → x < 27 → R' x = bq_Rf z x) ∧ ∀ x, 27 ≤ x → R' x = fun _ => none) ⟨?_, ?_, ?_, ?_, ?_⟩ (fun R0 hR0 => ?_)
  · rw [bq_sr_s, hR]
    funext j
    cases j <;> rfl
  · rw [bq_sr_n (by decide), (hF 26 (by decide)).1]; funext j; rw [if_neg (by omega)]
  · intro x hx; exact bq_sr_n (by omega)
  · intro x h1 h2; omega
  · intro x hx; rw [bq_sr_n (by omega)]; exact (hF x (by omega)).1
  · refine bq_nrm (cells' := 1) (slots' := 8) (n' := 27) rfl rfl rfl ?_
    obtain ⟨p01, p02, p03, p04, p05⟩ := hR0
    have hF0 : bq_Fr R0 I L 27 := fun x hx => ⟨p05 x hx, (hF x (by omega)).2⟩
    refine bq_iload_n (q := 16) G rfl dX6_init_15 rfl ?_
    refine bq_bipush (q := 18) (v := 8) G (by decide) dX6_init_16 rfl ?_
    refine bq_icmp_ge_f (q := 21) (t := 40) G dX6_init_18 rfl (by decide) (nI_ge (a := 0) (b := 8) (by decide) (by decide)) ?_
    refine bq_aload_n (q := 22) G rfl dX6_init_21 rfl ?_
    refine bq_getr (q := 25) G dX6_init_22 rfl fl_X6_11 (by first | assumption | exact ⟨Nat.le_of_ble_eq_true rfl, rfl⟩) (fun _ _ _ => rfl) ((congrFun p01 0).trans (rf_25_0 z)) ?_
    refine bq_iload_n (q := 26) G rfl dX6_init_25 rfl ?_
    refine bq_new (q := 29) (ci := 5) G dX6_init_26 rfl (by decide) wl_X6_9 wa_X5 wi_X5 rfl hF0 (Nat.le_of_ble_eq_true rfl) (Nat.le_of_ble_eq_true rfl) ?_
    refine bq_dup (q := 30) G rfl dX6_init_29 rfl ?_
    refine bq_calli (q := 33) (n' := 31) G dX6_init_30 rfl cl_X6_15 rfl (c_X5_init (a := 27) (hF0.s (by decide)) (p05 27 (by decide)) rfl rfl rfl rfl) rfl rfl ⟨Nat.le_of_ble_eq_true rfl, Nat.le_of_ble_eq_true rfl⟩ (Nat.le_of_ble_eq_true rfl) ⟨Nat.le_of_ble_eq_true rfl, Nat.le_of_ble_eq_true rfl⟩ rfl ?_
    refine bq_aast (q := 34) (b := 0) G dX6_init_33 rfl (by first | assumption | exact ⟨Nat.le_of_ble_eq_true rfl, rfl⟩) (by first | assumption | exact ⟨Nat.le_of_ble_eq_true rfl, rfl⟩) rfl (by decide) (by decide) ?_
    refine bq_iinc (q := 37) (ls' := [_, _]) G dX6_init_34 rfl rfl (show nI 0 + 1 = nI 1 from nI_1 0) (by decide) rfl rfl ?_
    refine bq_goto (q := 15) G dX6_init_37 (by decide) ?_
    refine bq_nrm (cells' := 5) (slots' := 44) (n' := 31) rfl rfl rfl ?_
    refine bq_nameR (P := fun R' => R' 25 = bq_Rf z 25 ∧ (R' 26 = fun j => if j < 1 then some (z + (27 + 4 * j)) else none) ∧ (∀ x, x < 25 → R' x = R x) ∧ (∀ x, 27 ≤ x → x < 31 → R' x = bq_Rf z x) ∧ ∀ x, 31 ≤ x → R' x = fun _ => none) ⟨?_, ?_, ?_, ?_, ?_⟩ (fun R1 hR1 => ?_)
    · rw [bq_sr_n (by decide), bq_sr_n (by decide)]; exact p01
    · rw [bq_sr_s, bq_sr_n (by decide), p02]
      exact kr_ring (i := 0) (o := 27)
    · intro x hx; rw [bq_sr_n (by omega), bq_sr_n (by omega)]; exact p03 x hx
    · intro x h1 h2
      rcases (show x = 27 ∨ x = 28 ∨ x = 29 ∨ x = 30 ∨ x < 27 by omega) with rfl | rfl | rfl | rfl | h
      · rw [bq_sr_n (by decide), bq_sr_s]; rfl
      · rw [bq_sr_n (by decide), bq_sr_n (by decide), p05 _ (by decide)]; rfl
      · rw [bq_sr_n (by decide), bq_sr_n (by decide), p05 _ (by decide)]; rfl
      · rw [bq_sr_n (by decide), bq_sr_n (by decide), p05 _ (by decide)]; rfl
      · rw [bq_sr_n (by omega), bq_sr_n (by omega)]; exact p04 x h1 h
    · intro x hx; rw [bq_sr_n (by omega), bq_sr_n (by omega)]; exact p05 x (by omega)
    · skip
      obtain ⟨p11, p12, p13, p14, p15⟩ := hR1
      have hF1 : bq_Fr R1 I L 31 := fun x hx => ⟨p15 x hx, (hF x (by omega)).2⟩
      refine bq_iload_n (q := 16) G rfl dX6_init_15 rfl ?_
      refine bq_bipush (q := 18) (v := 8) G (by decide) dX6_init_16 rfl ?_
      refine bq_icmp_ge_f (q := 21) (t := 40) G dX6_init_18 rfl (by decide) (nI_ge (a := 1) (b := 8) (by decide) (by decide)) ?_
      refine bq_aload_n (q := 22) G rfl dX6_init_21 rfl ?_
      refine bq_getr (q := 25) G dX6_init_22 rfl fl_X6_11 (by first | assumption | exact ⟨Nat.le_of_ble_eq_true rfl, rfl⟩) (fun _ _ _ => rfl) ((congrFun p11 0).trans (rf_25_0 z)) ?_
      refine bq_iload_n (q := 26) G rfl dX6_init_25 rfl ?_
      refine bq_new (q := 29) (ci := 5) G dX6_init_26 rfl (by decide) wl_X6_9 wa_X5 wi_X5 rfl hF1 (Nat.le_of_ble_eq_true rfl) (Nat.le_of_ble_eq_true rfl) ?_
      refine bq_dup (q := 30) G rfl dX6_init_29 rfl ?_
      refine bq_calli (q := 33) (n' := 35) G dX6_init_30 rfl cl_X6_15 rfl (c_X5_init (a := 31) (hF1.s (by decide)) (p15 31 (by decide)) rfl rfl rfl rfl) rfl rfl ⟨Nat.le_of_ble_eq_true rfl, Nat.le_of_ble_eq_true rfl⟩ (Nat.le_of_ble_eq_true rfl) ⟨Nat.le_of_ble_eq_true rfl, Nat.le_of_ble_eq_true rfl⟩ rfl ?_
      refine bq_aast (q := 34) (b := 1) G dX6_init_33 rfl (by first | assumption | exact ⟨Nat.le_of_ble_eq_true rfl, rfl⟩) (by first | assumption | exact ⟨Nat.le_of_ble_eq_true rfl, rfl⟩) rfl (by decide) (by decide) ?_
      refine bq_iinc (q := 37) (ls' := [_, _]) G dX6_init_34 rfl rfl (show nI 1 + 1 = nI 2 from nI_1 1) (by decide) rfl rfl ?_
      refine bq_goto (q := 15) G dX6_init_37 (by decide) ?_
      refine bq_nrm (cells' := 9) (slots' := 80) (n' := 35) rfl rfl rfl ?_
      refine bq_nameR (P := fun R' => R' 25 = bq_Rf z 25 ∧ (R' 26 = fun j => if j < 2 then some (z + (27 + 4 * j)) else none) ∧ (∀ x, x < 25 → R' x = R x) ∧ (∀ x, 27 ≤ x → x < 35 → R' x = bq_Rf z x) ∧ ∀ x, 35 ≤ x → R' x = fun _ => none) ⟨?_, ?_, ?_, ?_, ?_⟩ (fun R2 hR2 => ?_)
      · rw [bq_sr_n (by decide), bq_sr_n (by decide)]; exact p11
      · rw [bq_sr_s, bq_sr_n (by decide), p12]
        exact kr_ring (i := 1) (o := 27)
      · intro x hx; rw [bq_sr_n (by omega), bq_sr_n (by omega)]; exact p13 x hx
      · intro x h1 h2
        rcases (show x = 31 ∨ x = 32 ∨ x = 33 ∨ x = 34 ∨ x < 31 by omega) with rfl | rfl | rfl | rfl | h
        · rw [bq_sr_n (by decide), bq_sr_s]; rfl
        · rw [bq_sr_n (by decide), bq_sr_n (by decide), p15 _ (by decide)]; rfl
        · rw [bq_sr_n (by decide), bq_sr_n (by decide), p15 _ (by decide)]; rfl
        · rw [bq_sr_n (by decide), bq_sr_n (by decide), p15 _ (by decide)]; rfl
        · rw [bq_sr_n (by omega), bq_sr_n (by omega)]; exact p14 x h1 h
      · intro x hx; rw [bq_sr_n (by omega), bq_sr_n (by omega)]; exact p15 x (by omega)
      · skip
        obtain ⟨p21, p22, p23, p24, p25⟩ := hR2
        have hF2 : bq_Fr R2 I L 35 := fun x hx => ⟨p25 x hx, (hF x (by omega)).2⟩
        refine bq_iload_n (q := 16) G rfl dX6_init_15 rfl ?_
        refine bq_bipush (q := 18) (v := 8) G (by decide) dX6_init_16 rfl ?_
        refine bq_icmp_ge_f (q := 21) (t := 40) G dX6_init_18 rfl (by decide) (nI_ge (a := 2) (b := 8) (by decide) (by decide)) ?_
        refine bq_aload_n (q := 22) G rfl dX6_init_21 rfl ?_
        refine bq_getr (q := 25) G dX6_init_22 rfl fl_X6_11 (by first | assumption | exact ⟨Nat.le_of_ble_eq_true rfl, rfl⟩) (fun _ _ _ => rfl) ((congrFun p21 0).trans (rf_25_0 z)) ?_
        refine bq_iload_n (q := 26) G rfl dX6_init_25 rfl ?_
        refine bq_new (q := 29) (ci := 5) G dX6_init_26 rfl (by decide) wl_X6_9 wa_X5 wi_X5 rfl hF2 (Nat.le_of_ble_eq_true rfl) (Nat.le_of_ble_eq_true rfl) ?_
        refine bq_dup (q := 30) G rfl dX6_init_29 rfl ?_
        refine bq_calli (q := 33) (n' := 39) G dX6_init_30 rfl cl_X6_15 rfl (c_X5_init (a := 35) (hF2.s (by decide)) (p25 35 (by decide)) rfl rfl rfl rfl) rfl rfl ⟨Nat.le_of_ble_eq_true rfl, Nat.le_of_ble_eq_true rfl⟩ (Nat.le_of_ble_eq_true rfl) ⟨Nat.le_of_ble_eq_true rfl, Nat.le_of_ble_eq_true rfl⟩ rfl ?_
        refine bq_aast (q := 34) (b := 2) G dX6_init_33 rfl (by first | assumption | exact ⟨Nat.le_of_ble_eq_true rfl, rfl⟩) (by first | assumption | exact ⟨Nat.le_of_ble_eq_true rfl, rfl⟩) rfl (by decide) (by decide) ?_
        refine bq_iinc (q := 37) (ls' := [_, _]) G dX6_init_34 rfl rfl (show nI 2 + 1 = nI 3 from nI_1 2) (by decide) rfl rfl ?_
        refine bq_goto (q := 15) G dX6_init_37 (by decide) ?_
        refine bq_nrm (cells' := 13) (slots' := 116) (n' := 39) rfl rfl rfl ?_
        refine bq_nameR (P := fun R' => R' 25 = bq_Rf z 25 ∧ (R' 26 = fun j => if j < 3 then some (z + (27 + 4 * j)) else none) ∧ (∀ x, x < 25 → R' x = R x) ∧ (∀ x, 27 ≤ x → x < 39 → R' x = bq_Rf z x) ∧ ∀ x, 39 ≤ x → R' x = fun _ => none) ⟨?_, ?_, ?_, ?_, ?_⟩ (fun R3 hR3 => ?_)
        · rw [bq_sr_n (by decide), bq_sr_n (by decide)]; exact p21
        · rw [bq_sr_s, bq_sr_n (by decide), p22]
          exact kr_ring (i := 2) (o := 27)
        · intro x hx; rw [bq_sr_n (by omega), bq_sr_n (by omega)]; exact p23 x hx
        · intro x h1 h2
          rcases (show x = 35 ∨ x = 36 ∨ x = 37 ∨ x = 38 ∨ x < 35 by omega) with rfl | rfl | rfl | rfl | h
          · rw [bq_sr_n (by decide), bq_sr_s]; rfl
          · rw [bq_sr_n (by decide), bq_sr_n (by decide), p25 _ (by decide)]; rfl
          · rw [bq_sr_n (by decide), bq_sr_n (by decide), p25 _ (by decide)]; rfl
          · rw [bq_sr_n (by decide), bq_sr_n (by decide), p25 _ (by decide)]; rfl
          · rw [bq_sr_n (by omega), bq_sr_n (by omega)]; exact p24 x h1 h
        · intro x hx; rw [bq_sr_n (by omega), bq_sr_n (by omega)]; exact p25 x (by omega)
        · skip
          obtain ⟨p31, p32, p33, p34, p35⟩ := hR3
          have hF3 : bq_Fr R3 I L 39 := fun x hx => ⟨p35 x hx, (hF x (by omega)).2⟩
          refine bq_iload_n (q := 16) G rfl dX6_init_15 rfl ?_
          refine bq_bipush (q := 18) (v := 8) G (by decide) dX6_init_16 rfl ?_
          refine bq_icmp_ge_f (q := 21) (t := 40) G dX6_init_18 rfl (by decide) (nI_ge (a := 3) (b := 8) (by decide) (by decide)) ?_
          refine bq_aload_n (q := 22) G rfl dX6_init_21 rfl ?_
          refine bq_getr (q := 25) G dX6_init_22 rfl fl_X6_11 (by first | assumption | exact ⟨Nat.le_of_ble_eq_true rfl, rfl⟩) (fun _ _ _ => rfl) ((congrFun p31 0).trans (rf_25_0 z)) ?_
          refine bq_iload_n (q := 26) G rfl dX6_init_25 rfl ?_
          refine bq_new (q := 29) (ci := 5) G dX6_init_26 rfl (by decide) wl_X6_9 wa_X5 wi_X5 rfl hF3 (Nat.le_of_ble_eq_true rfl) (Nat.le_of_ble_eq_true rfl) ?_
          refine bq_dup (q := 30) G rfl dX6_init_29 rfl ?_
          refine bq_calli (q := 33) (n' := 43) G dX6_init_30 rfl cl_X6_15 rfl (c_X5_init (a := 39) (hF3.s (by decide)) (p35 39 (by decide)) rfl rfl rfl rfl) rfl rfl ⟨Nat.le_of_ble_eq_true rfl, Nat.le_of_ble_eq_true rfl⟩ (Nat.le_of_ble_eq_true rfl) ⟨Nat.le_of_ble_eq_true rfl, Nat.le_of_ble_eq_true rfl⟩ rfl ?_
          refine bq_aast (q := 34) (b := 3) G dX6_init_33 rfl (by first | assumption | exact ⟨Nat.le_of_ble_eq_true rfl, rfl⟩) (by first | assumption | exact ⟨Nat.le_of_ble_eq_true rfl, rfl⟩) rfl (by decide) (by decide) ?_
          refine bq_iinc (q := 37) (ls' := [_, _]) G dX6_init_34 rfl rfl (show nI 3 + 1 = nI 4 from nI_1 3) (by decide) rfl rfl ?_
          refine bq_goto (q := 15) G dX6_init_37 (by decide) ?_
          refine bq_nrm (cells' := 17) (slots' := 152) (n' := 43) rfl rfl rfl ?_
          refine bq_nameR (P := fun R' => R' 25 = bq_Rf z 25 ∧ (R' 26 = fun j => if j < 4 then some (z + (27 + 4 * j)) else none) ∧ (∀ x, x < 25 → R' x = R x) ∧ (∀ x, 27 ≤ x → x < 43 → R' x = bq_Rf z x) ∧ ∀ x, 43 ≤ x → R' x = fun _ => none) ⟨?_, ?_, ?_, ?_, ?_⟩ (fun R4 hR4 => ?_)
          · rw [bq_sr_n (by decide), bq_sr_n (by decide)]; exact p31
          · rw [bq_sr_s, bq_sr_n (by decide), p32]
            exact kr_ring (i := 3) (o := 27)
          · intro x hx; rw [bq_sr_n (by omega), bq_sr_n (by omega)]; exact p33 x hx
          · intro x h1 h2
            rcases (show x = 39 ∨ x = 40 ∨ x = 41 ∨ x = 42 ∨ x < 39 by omega) with rfl | rfl | rfl | rfl | h
            · rw [bq_sr_n (by decide), bq_sr_s]; rfl
            · rw [bq_sr_n (by decide), bq_sr_n (by decide), p35 _ (by decide)]; rfl
            · rw [bq_sr_n (by decide), bq_sr_n (by decide), p35 _ (by decide)]; rfl
            · rw [bq_sr_n (by decide), bq_sr_n (by decide), p35 _ (by decide)]; rfl
            · rw [bq_sr_n (by omega), bq_sr_n (by omega)]; exact p34 x h1 h
          · intro x hx; rw [bq_sr_n (by omega), bq_sr_n (by omega)]; exact p35 x (by omega)
          · skip
            obtain ⟨p41, p42, p43, p44, p45⟩ := hR4
            have hF4 : bq_Fr R4 I L 43 := fun x hx => ⟨p45 x hx, (hF x (by omega)).2⟩
            refine bq_iload_n (q := 16) G rfl dX6_init_15 rfl ?_
            refine bq_bipush (q := 18) (v := 8) G (by decide) dX6_init_16 rfl ?_
            refine bq_icmp_ge_f (q := 21) (t := 40) G dX6_init_18 rfl (by decide) (nI_ge (a := 4) (b := 8) (by decide) (by decide)) ?_
            refine bq_aload_n (q := 22) G rfl dX6_init_21 rfl ?_
            refine bq_getr (q := 25) G dX6_init_22 rfl fl_X6_11 (by first | assumption | exact ⟨Nat.le_of_ble_eq_true rfl, rfl⟩) (fun _ _ _ => rfl) ((congrFun p41 0).trans (rf_25_0 z)) ?_
            refine bq_iload_n (q := 26) G rfl dX6_init_25 rfl ?_
            refine bq_new (q := 29) (ci := 5) G dX6_init_26 rfl (by decide) wl_X6_9 wa_X5 wi_X5 rfl hF4 (Nat.le_of_ble_eq_true rfl) (Nat.le_of_ble_eq_true rfl) ?_
            refine bq_dup (q := 30) G rfl dX6_init_29 rfl ?_
            refine bq_calli (q := 33) (n' := 47) G dX6_init_30 rfl cl_X6_15 rfl (c_X5_init (a := 43) (hF4.s (by decide)) (p45 43 (by decide)) rfl rfl rfl rfl) rfl rfl ⟨Nat.le_of_ble_eq_true rfl, Nat.le_of_ble_eq_true rfl⟩ (Nat.le_of_ble_eq_true rfl) ⟨Nat.le_of_ble_eq_true rfl, Nat.le_of_ble_eq_true rfl⟩ rfl ?_
            refine bq_aast (q := 34) (b := 4) G dX6_init_33 rfl (by first | assumption | exact ⟨Nat.le_of_ble_eq_true rfl, rfl⟩) (by first | assumption | exact ⟨Nat.le_of_ble_eq_true rfl, rfl⟩) rfl (by decide) (by decide) ?_
            refine bq_iinc (q := 37) (ls' := [_, _]) G dX6_init_34 rfl rfl (show nI 4 + 1 = nI 5 from nI_1 4) (by decide) rfl rfl ?_
            refine bq_goto (q := 15) G dX6_init_37 (by decide) ?_
            refine bq_nrm (cells' := 21) (slots' := 188) (n' := 47) rfl rfl rfl ?_
            refine bq_nameR (P := fun R' => R' 25 = bq_Rf z 25 ∧ (R' 26 = fun j => if j < 5 then some (z + (27 + 4 * j)) else none) ∧ (∀ x, x < 25 → R' x = R x) ∧ (∀ x, 27 ≤ x → x < 47 → R' x = bq_Rf z x) ∧ ∀ x, 47 ≤ x → R' x = fun _ => none) ⟨?_, ?_, ?_, ?_, ?_⟩ (fun R5 hR5 => ?_)
            · rw [bq_sr_n (by decide), bq_sr_n (by decide)]; exact p41
            · rw [bq_sr_s, bq_sr_n (by decide), p42]
              exact kr_ring (i := 4) (o := 27)
            · intro x hx; rw [bq_sr_n (by omega), bq_sr_n (by omega)]; exact p43 x hx
            · intro x h1 h2
              rcases (show x = 43 ∨ x = 44 ∨ x = 45 ∨ x = 46 ∨ x < 43 by omega) with rfl | rfl | rfl | rfl | h
              · rw [bq_sr_n (by decide), bq_sr_s]; rfl
              · rw [bq_sr_n (by decide), bq_sr_n (by decide), p45 _ (by decide)]; rfl
              · rw [bq_sr_n (by decide), bq_sr_n (by decide), p45 _ (by decide)]; rfl
              · rw [bq_sr_n (by decide), bq_sr_n (by decide), p45 _ (by decide)]; rfl
              · rw [bq_sr_n (by omega), bq_sr_n (by omega)]; exact p44 x h1 h
            · intro x hx; rw [bq_sr_n (by omega), bq_sr_n (by omega)]; exact p45 x (by omega)
            · skip
              obtain ⟨p51, p52, p53, p54, p55⟩ := hR5
              have hF5 : bq_Fr R5 I L 47 := fun x hx => ⟨p55 x hx, (hF x (by omega)).2⟩
              refine bq_iload_n (q := 16) G rfl dX6_init_15 rfl ?_
              refine bq_bipush (q := 18) (v := 8) G (by decide) dX6_init_16 rfl ?_
              refine bq_icmp_ge_f (q := 21) (t := 40) G dX6_init_18 rfl (by decide) (nI_ge (a := 5) (b := 8) (by decide) (by decide)) ?_
              refine bq_aload_n (q := 22) G rfl dX6_init_21 rfl ?_
              refine bq_getr (q := 25) G dX6_init_22 rfl fl_X6_11 (by first | assumption | exact ⟨Nat.le_of_ble_eq_true rfl, rfl⟩) (fun _ _ _ => rfl) ((congrFun p51 0).trans (rf_25_0 z)) ?_
              refine bq_iload_n (q := 26) G rfl dX6_init_25 rfl ?_
              refine bq_new (q := 29) (ci := 5) G dX6_init_26 rfl (by decide) wl_X6_9 wa_X5 wi_X5 rfl hF5 (Nat.le_of_ble_eq_true rfl) (Nat.le_of_ble_eq_true rfl) ?_
              refine bq_dup (q := 30) G rfl dX6_init_29 rfl ?_
              refine bq_calli (q := 33) (n' := 51) G dX6_init_30 rfl cl_X6_15 rfl (c_X5_init (a := 47) (hF5.s (by decide)) (p55 47 (by decide)) rfl rfl rfl rfl) rfl rfl ⟨Nat.le_of_ble_eq_true rfl, Nat.le_of_ble_eq_true rfl⟩ (Nat.le_of_ble_eq_true rfl) ⟨Nat.le_of_ble_eq_true rfl, Nat.le_of_ble_eq_true rfl⟩ rfl ?_
              refine bq_aast (q := 34) (b := 5) G dX6_init_33 rfl (by first | assumption | exact ⟨Nat.le_of_ble_eq_true rfl, rfl⟩) (by first | assumption | exact ⟨Nat.le_of_ble_eq_true rfl, rfl⟩) rfl (by decide) (by decide) ?_
              refine bq_iinc (q := 37) (ls' := [_, _]) G dX6_init_34 rfl rfl (show nI 5 + 1 = nI 6 from nI_1 5) (by decide) rfl rfl ?_
              refine bq_goto (q := 15) G dX6_init_37 (by decide) ?_
              refine bq_nrm (cells' := 25) (slots' := 224) (n' := 51) rfl rfl rfl ?_
              refine bq_nameR (P := fun R' => R' 25 = bq_Rf z 25 ∧ (R' 26 = fun j => if j < 6 then some (z + (27 + 4 * j)) else none) ∧ (∀ x, x < 25 → R' x = R x) ∧ (∀ x, 27 ≤ x → x < 51 → R' x = bq_Rf z x) ∧ ∀ x, 51 ≤ x → R' x = fun _ => none) ⟨?_, ?_, ?_, ?_, ?_⟩ (fun R6 hR6 => ?_)
              · rw [bq_sr_n (by decide), bq_sr_n (by decide)]; exact p51
              · rw [bq_sr_s, bq_sr_n (by decide), p52]
                exact kr_ring (i := 5) (o := 27)
              · intro x hx; rw [bq_sr_n (by omega), bq_sr_n (by omega)]; exact p53 x hx
              · intro x h1 h2
                rcases (show x = 47 ∨ x = 48 ∨ x = 49 ∨ x = 50 ∨ x < 47 by omega) with rfl | rfl | rfl | rfl | h
                · rw [bq_sr_n (by decide), bq_sr_s]; rfl
                · rw [bq_sr_n (by decide), bq_sr_n (by decide), p55 _ (by decide)]; rfl
                · rw [bq_sr_n (by decide), bq_sr_n (by decide), p55 _ (by decide)]; rfl
                · rw [bq_sr_n (by decide), bq_sr_n (by decide), p55 _ (by decide)]; rfl
                · rw [bq_sr_n (by omega), bq_sr_n (by omega)]; exact p54 x h1 h
              · intro x hx; rw [bq_sr_n (by omega), bq_sr_n (by omega)]; exact p55 x (by omega)
              · skip
                obtain ⟨p61, p62, p63, p64, p65⟩ := hR6
                have hF6 : bq_Fr R6 I L 51 := fun x hx => ⟨p65 x hx, (hF x (by omega)).2⟩
                refine bq_iload_n (q := 16) G rfl dX6_init_15 rfl ?_
                refine bq_bipush (q := 18) (v := 8) G (by decide) dX6_init_16 rfl ?_
                refine bq_icmp_ge_f (q := 21) (t := 40) G dX6_init_18 rfl (by decide) (nI_ge (a := 6) (b := 8) (by decide) (by decide)) ?_
                refine bq_aload_n (q := 22) G rfl dX6_init_21 rfl ?_
                refine bq_getr (q := 25) G dX6_init_22 rfl fl_X6_11 (by first | assumption | exact ⟨Nat.le_of_ble_eq_true rfl, rfl⟩) (fun _ _ _ => rfl) ((congrFun p61 0).trans (rf_25_0 z)) ?_
                refine bq_iload_n (q := 26) G rfl dX6_init_25 rfl ?_
                refine bq_new (q := 29) (ci := 5) G dX6_init_26 rfl (by decide) wl_X6_9 wa_X5 wi_X5 rfl hF6 (Nat.le_of_ble_eq_true rfl) (Nat.le_of_ble_eq_true rfl) ?_
                refine bq_dup (q := 30) G rfl dX6_init_29 rfl ?_
                refine bq_calli (q := 33) (n' := 55) G dX6_init_30 rfl cl_X6_15 rfl (c_X5_init (a := 51) (hF6.s (by decide)) (p65 51 (by decide)) rfl rfl rfl rfl) rfl rfl ⟨Nat.le_of_ble_eq_true rfl, Nat.le_of_ble_eq_true rfl⟩ (Nat.le_of_ble_eq_true rfl) ⟨Nat.le_of_ble_eq_true rfl, Nat.le_of_ble_eq_true rfl⟩ rfl ?_
                refine bq_aast (q := 34) (b := 6) G dX6_init_33 rfl (by first | assumption | exact ⟨Nat.le_of_ble_eq_true rfl, rfl⟩) (by first | assumption | exact ⟨Nat.le_of_ble_eq_true rfl, rfl⟩) rfl (by decide) (by decide) ?_
                refine bq_iinc (q := 37) (ls' := [_, _]) G dX6_init_34 rfl rfl (show nI 6 + 1 = nI 7 from nI_1 6) (by decide) rfl rfl ?_
                refine bq_goto (q := 15) G dX6_init_37 (by decide) ?_
                refine bq_nrm (cells' := 29) (slots' := 260) (n' := 55) rfl rfl rfl ?_
                refine bq_nameR (P := fun R' => R' 25 = bq_Rf z 25 ∧ (R' 26 = fun j => if j < 7 then some (z + (27 + 4 * j)) else none) ∧ (∀ x, x < 25 → R' x = R x) ∧ (∀ x, 27 ≤ x → x < 55 → R' x = bq_Rf z x) ∧ ∀ x, 55 ≤ x → R' x = fun _ => none) ⟨?_, ?_, ?_, ?_, ?_⟩ (fun R7 hR7 => ?_)
                · rw [bq_sr_n (by decide), bq_sr_n (by decide)]; exact p61
                · rw [bq_sr_s, bq_sr_n (by decide), p62]
                  exact kr_ring (i := 6) (o := 27)
                · intro x hx; rw [bq_sr_n (by omega), bq_sr_n (by omega)]; exact p63 x hx
                · intro x h1 h2
                  rcases (show x = 51 ∨ x = 52 ∨ x = 53 ∨ x = 54 ∨ x < 51 by omega) with rfl | rfl | rfl | rfl | h
                  · rw [bq_sr_n (by decide), bq_sr_s]; rfl
                  · rw [bq_sr_n (by decide), bq_sr_n (by decide), p65 _ (by decide)]; rfl
                  · rw [bq_sr_n (by decide), bq_sr_n (by decide), p65 _ (by decide)]; rfl
                  · rw [bq_sr_n (by decide), bq_sr_n (by decide), p65 _ (by decide)]; rfl
                  · rw [bq_sr_n (by omega), bq_sr_n (by omega)]; exact p64 x h1 h
                · intro x hx; rw [bq_sr_n (by omega), bq_sr_n (by omega)]; exact p65 x (by omega)
                · skip
                  obtain ⟨p71, p72, p73, p74, p75⟩ := hR7
                  have hF7 : bq_Fr R7 I L 55 := fun x hx => ⟨p75 x hx, (hF x (by omega)).2⟩
                  refine bq_iload_n (q := 16) G rfl dX6_init_15 rfl ?_
                  refine bq_bipush (q := 18) (v := 8) G (by decide) dX6_init_16 rfl ?_
                  refine bq_icmp_ge_f (q := 21) (t := 40) G dX6_init_18 rfl (by decide) (nI_ge (a := 7) (b := 8) (by decide) (by decide)) ?_
                  refine bq_aload_n (q := 22) G rfl dX6_init_21 rfl ?_
                  refine bq_getr (q := 25) G dX6_init_22 rfl fl_X6_11 (by first | assumption | exact ⟨Nat.le_of_ble_eq_true rfl, rfl⟩) (fun _ _ _ => rfl) ((congrFun p71 0).trans (rf_25_0 z)) ?_
                  refine bq_iload_n (q := 26) G rfl dX6_init_25 rfl ?_
                  refine bq_new (q := 29) (ci := 5) G dX6_init_26 rfl (by decide) wl_X6_9 wa_X5 wi_X5 rfl hF7 (Nat.le_of_ble_eq_true rfl) (Nat.le_of_ble_eq_true rfl) ?_
                  refine bq_dup (q := 30) G rfl dX6_init_29 rfl ?_
                  refine bq_calli (q := 33) (n' := 59) G dX6_init_30 rfl cl_X6_15 rfl (c_X5_init (a := 55) (hF7.s (by decide)) (p75 55 (by decide)) rfl rfl rfl rfl) rfl rfl ⟨Nat.le_of_ble_eq_true rfl, Nat.le_of_ble_eq_true rfl⟩ (Nat.le_of_ble_eq_true rfl) ⟨Nat.le_of_ble_eq_true rfl, Nat.le_of_ble_eq_true rfl⟩ rfl ?_
                  refine bq_aast (q := 34) (b := 7) G dX6_init_33 rfl (by first | assumption | exact ⟨Nat.le_of_ble_eq_true rfl, rfl⟩) (by first | assumption | exact ⟨Nat.le_of_ble_eq_true rfl, rfl⟩) rfl (by decide) (by decide) ?_
                  refine bq_iinc (q := 37) (ls' := [_, _]) G dX6_init_34 rfl rfl (show nI 7 + 1 = nI 8 from nI_1 7) (by decide) rfl rfl ?_
                  refine bq_goto (q := 15) G dX6_init_37 (by decide) ?_
                  refine bq_nrm (cells' := 33) (slots' := 296) (n' := 59) rfl rfl rfl ?_
                  refine bq_nameR (P := fun R' => R' 25 = bq_Rf z 25 ∧ (R' 26 = fun j => if j < 8 then some (z + (27 + 4 * j)) else none) ∧ (∀ x, x < 25 → R' x = R x) ∧ (∀ x, 27 ≤ x → x < 59 → R' x = bq_Rf z x) ∧ ∀ x, 59 ≤ x → R' x = fun _ => none) ⟨?_, ?_, ?_, ?_, ?_⟩ (fun R8 hR8 => ?_)
                  · rw [bq_sr_n (by decide), bq_sr_n (by decide)]; exact p71
                  · rw [bq_sr_s, bq_sr_n (by decide), p72]
                    exact kr_ring (i := 7) (o := 27)
                  · intro x hx; rw [bq_sr_n (by omega), bq_sr_n (by omega)]; exact p73 x hx
                  · intro x h1 h2
                    rcases (show x = 55 ∨ x = 56 ∨ x = 57 ∨ x = 58 ∨ x < 55 by omega) with rfl | rfl | rfl | rfl | h
                    · rw [bq_sr_n (by decide), bq_sr_s]; rfl
                    · rw [bq_sr_n (by decide), bq_sr_n (by decide), p75 _ (by decide)]; rfl
                    · rw [bq_sr_n (by decide), bq_sr_n (by decide), p75 _ (by decide)]; rfl
                    · rw [bq_sr_n (by decide), bq_sr_n (by decide), p75 _ (by decide)]; rfl
                    · rw [bq_sr_n (by omega), bq_sr_n (by omega)]; exact p74 x h1 h
                  · intro x hx; rw [bq_sr_n (by omega), bq_sr_n (by omega)]; exact p75 x (by omega)
                  · skip
                    obtain ⟨p81, p82, p83, p84, p85⟩ := hR8
                    refine bq_iload_n (q := 16) G rfl dX6_init_15 rfl ?_
                    refine bq_bipush (q := 18) (v := 8) G (by decide) dX6_init_16 rfl ?_
                    refine bq_icmp_ge_t (t := 40) G dX6_init_18 (by decide) (nI_le (a := 8) (b := 8) (by decide) (by decide)) ?_
                    refine hret _ _ _ _ _ dX6_init_40 ⟨⟨?_, p83, p85⟩, rfl, rfl⟩
                    intro x h1 h2
                    rcases (show x = 25 ∨ x = 26 ∨ 27 ≤ x by omega) with rfl | rfl | h
                    · exact p81
                    · rw [p82]; rfl
                    · exact p84 x h h2
