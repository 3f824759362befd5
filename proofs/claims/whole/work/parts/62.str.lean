/-! the text constant: what hangs on D -/
def bq_CxD (D : bq_D) (cc : ByteArray) (own : String) (nL z : Nat) (Rm : Room) (nm : String) (A : bq_A) : Prop :=
  ∃ (p : Program) (l : Launch) (e : Env) (s : State) (m : MethodId) (args : Array Value) (below : List Frame) (meth : Method) (c : Code) (Q : State → Prop),
    p.tables.exec = Jvm.exec ∧ c.code = cc ∧ c.maxLocals = nL ∧ s.vm.findClass own = some m.cls ∧ (∀ w ∈ bq_tbl, w.before args s = true) ∧ bq_KK z D s s.heap ∧ z ≤ s.heap.size ∧ meth.name = nm ∧
    A = fun cells slots pc ls st n R I L => ∀ (H : Heap) (locs : List Loc) (arr : Array Slot), bq_Rel z D n R I L H → va_S (fun q => z ≤ q) s.heap H locs → bq_LV arr nL ls → W p l e Rm s m args below meth c H locs cells slots Q (F0 m pc arr st)
theorem bq_CxD.cx {D : bq_D} {cc : ByteArray} {own : String} {nL z : Nat} {Rm : Room} {nm : String} {A : bq_A} (G : bq_CxD D cc own nL z Rm nm A) : bq_Cx cc own nL z Rm nm A := by
  obtain ⟨p, l, e, s, m, args, below, meth, c, Q, h⟩ := G
  exact ⟨p, l, e, s, m, args, below, meth, c, D, Q, h⟩
theorem bq_Cx.ex {cc : ByteArray} {own : String} {nL z : Nat} {Rm : Room} {nm : String} {A : bq_A} (G : bq_Cx cc own nL z Rm nm A) : ∃ D, bq_CxD D cc own nL z Rm nm A := by
  obtain ⟨p, l, e, s, m, args, below, meth, c, D, Q, h⟩ := G
  exact ⟨D, p, l, e, s, m, args, below, meth, c, Q, h⟩
def bq_FD (D : bq_D) (M : bq_M) (z : Nat) (av : List Value) (n : Nat) (R : bq_RR) (I : bq_IR) (L : bq_LR) (r : Int32) : Prop :=
  ∀ (l : Launch), Met l M.1 (Cond.code M.1 M.2.1 M.2.2.1 M.2.2.2.1 :: bq_tbl) (bq_rm M 0 0) (va_Pc av (fun U => bq_KK z D U U.heap ∧ bq_Rel z D n R I L U.heap))
    (fun _ st o t => o = .returned (some (.int r)) ∧ bq_Rel z D n R I L t.heap ∧ va_F (fun q => z ≤ q) st t) 0 0 (fun q => z ≤ q)
theorem bq_FC.fd {M : bq_M} {z : Nat} {av : List Value} {n : Nat} {R : bq_RR} {I : bq_IR} {L : bq_LR} {r : Int32} (h : bq_FC M z av n R I L 0 0 (some (.int r)) n R I L) (D : bq_D) : bq_FD D M z av n R I L r := fun l => h l D
theorem bq_FDof {D : bq_D} {M : bq_M} {z : Nat} {av : List Value} {n : Nat} {R : bq_RR} {I : bq_IR} {L : bq_LR} {r : Int32} (ls0 : bq_LS) (hls : bq_pad M.2.2.1 (bq_fl av) = ls0) (hlen : (lg_sl av).length ≤ M.2.2.1) (hy : plainFor M.1 = true) {ty : FieldType} (hty : M.2.2.2.1 = some ty) (hn : narrow ty (.int r) = .int r)
    (h : ∀ A : bq_A, bq_CxD D M.2.1 M.1.cls M.2.2.1 z (bq_rm M 0 0) M.1.name A → (∀ (pc : Nat) (ls : bq_LS), decode M.2.1 pc = .ok (.ireturn, 1) → A 0 0 pc ls [.int r] n R I L) → A 0 0 0 ls0 [] n R I L) : bq_FD D M z av n R I L r := by
  intro l
  refine bq_ofW (cc := M.2.1) (maxL := M.2.2.1) (ret := M.2.2.2.1) hy rfl ?_
  intro p e s m args below meth c s₁ B hml hv
  obtain ⟨rfl, hKK, hRel⟩ := hv
  have hts := atoms_spec (ws := Cond.code M.1 M.2.1 M.2.2.1 M.2.2.2.1 :: bq_tbl) B.pre
  have hown : s.vm.findClass M.1.cls = some m.cls := findClass_of_methodNamed B.named
  have hr := B.returns
  have hin : meth.name = M.1.name := (name_of_methodNamed B.named B.method).1
  have hz : z ≤ s.heap.size := by rw [hRel.1]; exact Nat.le_add_right _ _
  have hl := lv_entry av (n := M.2.2.1) hlen
  rw [lg_entry_eq]
  generalize (lg_sl av ++ List.replicate (M.2.2.1 - (lg_sl av).length) Slot.unset).toArray = arr at hl ⊢
  have hLV : bq_LV arr M.2.2.1 ls0 := by
    refine ⟨hl.1, hl.2.1, fun k v hk => ?_⟩
    refine hl.2.2 (k, v) ?_
    have h2 : bq_at (bq_fl av) k = some v := bq_pad_at _ _ _ _ (by rw [hls]; exact hk)
    have h3 := bq_ent_at av 0 k v h2
    rwa [Nat.zero_add] at h3
  refine h _ ⟨p, l, e, s, m, av.toArray, below, meth, c, MQ below (fun _ st o t => o = .returned (some (.int r)) ∧ bq_Rel z D n R I L t.heap ∧ va_F (fun q => z ≤ q) st t) av.toArray s 0 0 (fun q => z ≤ q), B.exec, B.bytes, hml, hown, fun w hw => hts w (List.mem_cons_of_mem _ hw), hKK, hz, hin, rfl⟩ ?_ s.heap [] arr hRel va_S.rf hLV
  intro pc ls hd H locs arr hR hS hl
  exact W.zret B.exec B.bytes (hr.trans hty) hn (fun t ht hW => ⟨rfl, by rw [ht]; exact hR, hS.F ht⟩) hS.2.2 hd
section BqStr
variable {D : bq_D} {cc : ByteArray} {own nm : String} {nL z : Nat} {Rm : Room} {A : bq_A} {cells slots pc q n : Nat} {ls : bq_LS} {st : List Value} {R : bq_RR} {I : bq_IR} {L : bq_LR}
theorem bq_i2b (G : bq_Cx cc own nL z Rm nm A) {x : Int32} (hd : decode cc pc = .ok (.i2b, 1)) (hp : pc + 1 = q) (k : A cells slots q ls (.int x.toInt8.toInt32 :: st) n R I L) : A cells slots pc ls (.int x :: st) n R I L := by
  obtain ⟨p, l, e, s, m, args, below, meth, c, D, Q, hx, hb, hml, hown, hts, hK, hz, hnm, rfl⟩ := G
  subst hp
  intro H locs arr hR hS hl
  exact lv_i2b hx hb hd rfl (k H locs arr hR hS hl)
theorem bq_sCS (G : bq_CxD D cc own nL z Rm nm A) {idx : Nat} (hd : decode cc pc = .ok (.getstatic idx, 3)) (hp : pc + 3 = q) (hw : Cond.fieldLink own idx "java/lang/String" "COMPACT_STRINGS" "Z" ∈ bq_tbl) (k : A cells slots q ls (.int 1 :: st) n R I L) : A cells slots pc ls st n R I L := by
  obtain ⟨p, l, e, s, m, args, below, meth, c, Q, hx, hb, hml, hown, hts, hK, hz, hnm, rfl⟩ := G
  subst hp
  intro H locs arr hR hS hl
  exact va_gets hx hb hK.2.2.2.2.2.2.2.2 hS hown (hts _ hw) (fun _ h => h) hd (k H locs arr hR hS hl)
theorem bq_sCo (G : bq_CxD D cc own nL z Rm nm A) {idx : Nat} (hd : decode cc pc = .ok (.getfield idx, 3)) (hp : pc + 3 = q) (hw : Cond.fieldLink own idx "java/lang/String" "coder" "B" ∈ bq_tbl) (k : A cells slots q ls (.int 0 :: st) n R I L) : A cells slots pc ls (.ref (D.2.2 3) :: st) n R I L := by
  obtain ⟨p, l, e, s, m, args, below, meth, c, Q, hx, hb, hml, hown, hts, hK, hz, hnm, rfl⟩ := G
  subst hp
  intro H locs arr hR hS hl
  exact vk_getf hx hb (hK.2.2.2.2.2.2.2.1.1 0 (by decide)).2.1 hS hown (hts _ hw) (fun _ h => h) hd (k H locs arr hR hS hl)
theorem bq_sVa (G : bq_CxD D cc own nL z Rm nm A) {idx : Nat} (hd : decode cc pc = .ok (.getfield idx, 3)) (hp : pc + 3 = q) (hw : Cond.fieldLink own idx "java/lang/String" "value" "[B" ∈ bq_tbl) (k : A cells slots q ls (.ref (D.2.2 4) :: st) n R I L) : A cells slots pc ls (.ref (D.2.2 3) :: st) n R I L := by
  obtain ⟨p, l, e, s, m, args, below, meth, c, Q, hx, hb, hml, hown, hts, hK, hz, hnm, rfl⟩ := G
  subst hp
  intro H locs arr hR hS hl
  exact vk_getf hx hb (hK.2.2.2.2.2.2.2.1.1 0 (by decide)).2.2.1 hS hown (hts _ hw) (fun _ h => h) hd (k H locs arr hR hS hl)
theorem bq_sLe (G : bq_CxD D cc own nL z Rm nm A) (hd : decode cc pc = .ok (.arraylength, 1)) (hp : pc + 1 = q) (k : A cells slots q ls (.int 6 :: st) n R I L) : A cells slots pc ls (.ref (D.2.2 4) :: st) n R I L := by
  obtain ⟨p, l, e, s, m, args, below, meth, c, Q, hx, hb, hml, hown, hts, hK, hz, hnm, rfl⟩ := G
  subst hp
  intro H locs arr hR hS hl
  exact va_tlen hx hb (hK.2.2.2.2.2.2.2.1.1 0 (by decide)).2.2.2 hS rfl hd (k H locs arr hR hS hl)
def st_b (k : Nat) : Int32 := ([119, 97, 100, 109, 115, 98] : List Int32).getD k 0
theorem bq_sAt (G : bq_CxD D cc own nL z Rm nm A) {b : Nat} (hd : decode cc pc = .ok (.baload, 1)) (hp : pc + 1 = q) (hb6 : b < 6) (k : A cells slots q ls (.int (st_b b) :: st) n R I L) : A cells slots pc ls (.int (nI b) :: .ref (D.2.2 4) :: st) n R I L := by
  obtain ⟨p, l, e, s, m, args, below, meth, c, Q, hx, hb, hml, hown, hts, hK, hz, hnm, rfl⟩ := G
  subst hp
  intro H locs arr hR hS hl
  refine va_tb hx hb (hK.2.2.2.2.2.2.2.1.1 0 (by decide)).2.2.2 hS (vp_in_nI (N := 6) hb6 (by decide)) (v := .int (st_b b)) ?_ hd (k H locs arr hR hS hl)
  show Value.int _ = _
  rw [nI_clamp (by omega)]
  rfl
theorem bq_ldcS (G : bq_CxD D cc RX7 nL z Rm nm A) (hd : decode cc pc = .ok (.ldc 36, 2)) (hp : pc + 2 = q) (k : A cells slots q ls (.ref (D.2.2 3) :: st) n R I L) : A cells slots pc ls st n R I L := by
  obtain ⟨p, l, e, s, m, args, below, meth, c, Q, hx, hb, hml, hown, hts, hK, hz, hnm, rfl⟩ := G
  subst hp
  intro H locs arr hR hS hl
  exact va_ldcS hx hb hown hK.2.2.2.2.2.2.1 hd (k H locs arr hR hS hl)
theorem bq_callvS (G : bq_CxD D cc own nL z Rm nm A) {M : bq_M} {np idx : Nat} {r : Int32} {As rest : List Value} (hd : decode cc pc = .ok (.invokevirtual idx, 3)) (hp : pc + 3 = q) (hC : bq_CB own idx M np) (hi : Cond.instanceMethod M.1 ∈ bq_tbl) (hs0 : Cond.selects M.1.cls M.1 M.1 ∈ bq_tbl) (hcl : M.1.cls = "java/lang/String") (F : bq_FD D M z (.ref (D.2.2 3) :: As) n R I L r) (hs : st = As.reverse ++ .ref (D.2.2 3) :: rest) (hnp : As.length = np) (hfit : bq_fit M Rm) (hroom : (rest.map fun v => v.category).sum ≤ 8) (hcs : cells + 0 ≤ Rm.cells ∧ slots + 0 ≤ Rm.slots) (k : A cells slots q ls (.int r :: rest) n R I L) : A cells slots pc ls st n R I L := by
  obtain ⟨p, l, e, s, m, args, below, meth, c, Q, hx, hb, hml, hown, hts, hK, hz, hnm, rfl⟩ := G
  subst hp
  intro H locs arr hR hS hl
  have hpre := bq_pre (av := .ref (D.2.2 3) :: As) hK hS hR
  refine bq_cont (va_runV (As := As) (rest := rest) ⟨hx, hb, hml, hown, hts⟩ (F l) ⟨bq_callB hts hC hfit, hts _ hi, hts _ hs0⟩ ⟨hpre.1, ?_, hpre.2⟩ rfl hnp hl.1 hs (lv_room hroom) hd hcs) hS (fun H1 locs1 hR1 hS1 => k H1 locs1 arr hR1 hS1 hl)
  rw [hcl]
  exact vk_recv (i := 0) hK.2.2.2.2.2.2.2.1 (by decide) hS
theorem bq_callsS (G : bq_CxD D cc own nL z Rm nm A) {M : bq_M} {np idx : Nat} {r : Int32} {As rest : List Value} (hd : decode cc pc = .ok (.invokestatic idx, 3)) (hp : pc + 3 = q) (hC : bq_CS own idx M np) (F : bq_FD D M z As n R I L r) (hs : st = As.reverse ++ rest) (hnp : As.length = np) (hfit : bq_fit M Rm) (hroom : (rest.map fun v => v.category).sum ≤ 8) (hcs : cells + 0 ≤ Rm.cells ∧ slots + 0 ≤ Rm.slots) (k : A cells slots q ls (.int r :: rest) n R I L) : A cells slots pc ls st n R I L := by
  obtain ⟨p, l, e, s, m, args, below, meth, c, Q, hx, hb, hml, hown, hts, hK, hz, hnm, rfl⟩ := G
  subst hp
  intro H locs arr hR hS hl
  exact bq_cont (va_runS (As := As) (rest := rest) ⟨hx, hb, hml, hown, hts⟩ (F l) ⟨bq_callB hts hC.1 hfit, hts _ hC.2⟩ (bq_pre (av := As) hK hS hR) rfl hnp hl.1 hs (lv_room hroom) hd hcs) hS (fun H1 locs1 hR1 hS1 => k H1 locs1 arr hR1 hS1 hl)
end BqStr
def st_f (w : Int32) : Nat → Nat → Int32
  | 0, _ => -1
  | d + 1, k => if st_b k = w then nI k else st_f w d (k + 1)
theorem st_f_s (w : Int32) (d k : Nat) : st_f w (d + 1) k = if st_b k = w then nI k else st_f w d (k + 1) := by rw [st_f]
theorem st_it : ∀ x, x < 256 → st_f (nI x).toInt8.toInt32 6 0 = tk_it (nI x) := by decide +kernel
theorem st_i2c : ∀ x, x < 256 → ((nI x).toUInt32 % 65536).toInt32 = nI x := by decide +kernel
set_option maxHeartbeats 1000000 in
set_option maxRecDepth 100000 in
theorem c_J0_coder_7d493 {D : bq_D} {z n : Nat} {R : bq_RR} {I : bq_IR} {L : bq_LR}   : bq_FD D MJ0_coder_7d493 z [.ref (D.2.2 3)] n R I L (0) := by
  refine bq_FDof [some (.ref (D.2.2 3))] rfl (Nat.le_of_ble_eq_true rfl) (by decide +kernel) rfl rfl ?_
  intro A GD hret
  have GD : bq_CxD D cJ0_coder_7d493 RJ0 1 z (bq_rm MJ0_coder_7d493 0 0) "coder" A := GD
  have G : bq_Cx cJ0_coder_7d493 RJ0 1 z (bq_rm MJ0_coder_7d493 0 0) "coder" A := GD.cx
  refine bq_sCS (q := 3) GD dJ0_coder_7d493_0 rfl fs_J0_38 ?_
  refine bq_if_eq_f (q := 6) (t := 13) G dJ0_coder_7d493_3 rfl (by decide) (by decide) ?_
  refine bq_aload_n (q := 7) G rfl dJ0_coder_7d493_6 rfl ?_
  refine bq_sCo (q := 10) GD dJ0_coder_7d493_7 rfl fs_J0_15 ?_
  refine bq_goto (q := 14) G dJ0_coder_7d493_10 (by decide) ?_
  exact hret _ _ dJ0_coder_7d493_14
set_option maxHeartbeats 1000000 in
set_option maxRecDepth 100000 in
theorem c_J0_isLatin1_aae02 {D : bq_D} {z n : Nat} {R : bq_RR} {I : bq_IR} {L : bq_LR}   : bq_FD D MJ0_isLatin1_aae02 z [.ref (D.2.2 3)] n R I L (1) := by
  refine bq_FDof [some (.ref (D.2.2 3))] rfl (Nat.le_of_ble_eq_true rfl) (by decide +kernel) rfl rfl ?_
  intro A GD hret
  have GD : bq_CxD D cJ0_isLatin1_aae02 RJ0 1 z (bq_rm MJ0_isLatin1_aae02 0 0) "isLatin1" A := GD
  have G : bq_Cx cJ0_isLatin1_aae02 RJ0 1 z (bq_rm MJ0_isLatin1_aae02 0 0) "isLatin1" A := GD.cx
  refine bq_sCS (q := 3) GD dJ0_isLatin1_aae02_0 rfl fs_J0_38 ?_
  refine bq_if_eq_f (q := 6) (t := 17) G dJ0_isLatin1_aae02_3 rfl (by decide) (by decide) ?_
  refine bq_aload_n (q := 7) G rfl dJ0_isLatin1_aae02_6 rfl ?_
  refine bq_sCo (q := 10) GD dJ0_isLatin1_aae02_7 rfl fs_J0_15 ?_
  refine bq_if_ne_f (q := 13) (t := 17) G dJ0_isLatin1_aae02_10 rfl (by decide) rfl ?_
  refine bq_iconst (q := 14) (v := 1) G (by decide) dJ0_isLatin1_aae02_13 rfl ?_
  refine bq_goto (q := 18) G dJ0_isLatin1_aae02_14 (by decide) ?_
  exact hret _ _ dJ0_isLatin1_aae02_18
set_option maxHeartbeats 1000000 in
set_option maxRecDepth 100000 in
theorem c_J0_length_8abf5 {D : bq_D} {z n : Nat} {R : bq_RR} {I : bq_IR} {L : bq_LR}   : bq_FD D MJ0_length_8abf5 z [.ref (D.2.2 3)] n R I L (6) := by
  refine bq_FDof [some (.ref (D.2.2 3))] rfl (Nat.le_of_ble_eq_true rfl) (by decide +kernel) rfl rfl ?_
  intro A GD hret
  have GD : bq_CxD D cJ0_length_8abf5 RJ0 1 z (bq_rm MJ0_length_8abf5 0 0) "length" A := GD
  have G : bq_Cx cJ0_length_8abf5 RJ0 1 z (bq_rm MJ0_length_8abf5 0 0) "length" A := GD.cx
  refine bq_aload_n (q := 1) G rfl dJ0_length_8abf5_0 rfl ?_
  refine bq_sVa (q := 4) GD dJ0_length_8abf5_1 rfl fs_J0_9 ?_
  refine bq_sLe (q := 5) GD dJ0_length_8abf5_4 rfl ?_
  refine bq_aload_n (q := 6) G rfl dJ0_length_8abf5_5 rfl ?_
  refine bq_callvS (q := 9) GD dJ0_length_8abf5_6 rfl cb_J0_335 wn_J0_coder_7d493 ws_J0_coder_7d493 rfl (c_J0_coder_7d493) rfl rfl ⟨Nat.le_of_ble_eq_true rfl, Nat.le_of_ble_eq_true rfl⟩ (Nat.le_of_ble_eq_true rfl) ⟨Nat.le_of_ble_eq_true rfl, Nat.le_of_ble_eq_true rfl⟩ ?_
  refine bq_ishr (q := 10) G dJ0_length_8abf5_9 rfl ?_
  exact hret _ _ dJ0_length_8abf5_10
set_option maxHeartbeats 1000000 in
set_option maxRecDepth 100000 in
theorem c_J1_canEncode_9a6ad {z n : Nat} {R : bq_RR} {I : bq_IR} {L : bq_LR} {v : Int32}  : bq_FC MJ1_canEncode_9a6ad z [.int v] n R I L 0 0 (some (.int (if 0 ≤ v ∧ v ≤ 255 then 1 else 0))) n R (I) (L) := by
  refine bq_ofI [some (.int v)] rfl (Nat.le_of_ble_eq_true rfl) (by decide +kernel) rfl (by first | rfl | exact bq_nb _ | (split <;> rfl)) ?_
  intro A G hret
  have G : bq_Cx cJ1_canEncode_9a6ad RJ1 1 z (bq_rm MJ1_canEncode_9a6ad 0 0) "canEncode" A := G
  refine bq_iload_n (q := 1) G rfl dJ1_canEncode_9a6ad_0 rfl ?_
  refine bq_if_lt (t := 15) (q := 4) G dJ1_canEncode_9a6ad_1 (by decide) rfl (fun c1 => ?_) (fun c1 => ?_)
  · refine bq_iconst (q := 16) (v := 0) G (by decide) dJ1_canEncode_9a6ad_15 rfl ?_
    exact bq_ri (hret _ _ dJ1_canEncode_9a6ad_16) (by simp only [Int32.lt_iff_toInt_lt, Int32.le_iff_toInt_le] at *; (repeat' split) <;> first | rfl | omega) rfl rfl
  · refine bq_iload_n (q := 5) G rfl dJ1_canEncode_9a6ad_4 rfl ?_
    refine bq_sipush (q := 8) (v := 255) G (by decide) dJ1_canEncode_9a6ad_5 rfl ?_
    refine bq_icmp_gt (t := 15) (q := 11) G dJ1_canEncode_9a6ad_8 (by decide) rfl (fun c8 => ?_) (fun c8 => ?_)
    · refine bq_iconst (q := 16) (v := 0) G (by decide) dJ1_canEncode_9a6ad_15 rfl ?_
      exact bq_ri (hret _ _ dJ1_canEncode_9a6ad_16) (by simp only [Int32.lt_iff_toInt_lt, Int32.le_iff_toInt_le] at *; (repeat' split) <;> first | rfl | omega) rfl rfl
    · refine bq_iconst (q := 12) (v := 1) G (by decide) dJ1_canEncode_9a6ad_11 rfl ?_
      refine bq_goto (q := 16) G dJ1_canEncode_9a6ad_12 (by decide) ?_
      exact bq_ri (hret _ _ dJ1_canEncode_9a6ad_16) (by simp only [Int32.lt_iff_toInt_lt, Int32.le_iff_toInt_le] at *; (repeat' split) <;> first | rfl | omega) rfl rfl
set_option maxHeartbeats 1000000 in
set_option maxRecDepth 100000 in
theorem c_J1_indexOfChar_4cfef {D : bq_D} {z n : Nat} {R : bq_RR} {I : bq_IR} {L : bq_LR} {x : Nat} (hx : x < 256) : bq_FD D MJ1_indexOfChar_4cfef z [.ref (D.2.2 4), .int (nI x), .int 0, .int 6] n R I L (tk_it (nI x)) := by
  refine bq_FDof [some (.ref (D.2.2 4)), some (.int (nI x)), some (.int 0), some (.int 6), none, none] rfl (Nat.le_of_ble_eq_true rfl) (by decide +kernel) rfl rfl ?_
  intro A GD hret
  have GD : bq_CxD D cJ1_indexOfChar_4cfef RJ1 6 z (bq_rm MJ1_indexOfChar_4cfef 0 0) "indexOfChar" A := GD
  have G : bq_Cx cJ1_indexOfChar_4cfef RJ1 6 z (bq_rm MJ1_indexOfChar_4cfef 0 0) "indexOfChar" A := GD.cx
  have loop : ∀ k, k ≤ 6 → st_f (nI x).toInt8.toInt32 (6 - k) k = tk_it (nI x) → A 0 0 7 [some (.ref (D.2.2 4)), some (.int (nI x)), some (.int 0), some (.int 6), some (.int (nI x).toInt8.toInt32), some (.int (nI k))] [] n R I L := by
    refine bq_down 6 ?_
    intro k hk ih he
    rcases Nat.lt_or_ge k 6 with hk8 | hk8
    · rw [show 6 - k = (6 - (k + 1)) + 1 by omega, st_f_s] at he
      refine bq_iload (q := 9) G rfl dJ1_indexOfChar_4cfef_7 rfl ?_
      refine bq_iload_n (q := 10) G rfl dJ1_indexOfChar_4cfef_9 rfl ?_
      refine bq_icmp_ge_f (q := 13) (t := 31) G dJ1_indexOfChar_4cfef_10 rfl (by decide) (nI_ge (a := k) (b := 6) hk8 (by decide)) ?_
      refine bq_aload_n (q := 14) G rfl dJ1_indexOfChar_4cfef_13 rfl ?_
      refine bq_iload (q := 16) G rfl dJ1_indexOfChar_4cfef_14 rfl ?_
      refine bq_sAt (q := 17) GD dJ1_indexOfChar_4cfef_16 rfl hk8 ?_
      refine bq_iload (q := 19) G rfl dJ1_indexOfChar_4cfef_17 rfl ?_
      refine bq_icmp_ne (t := 25) (q := 22) G dJ1_indexOfChar_4cfef_19 (by decide) rfl (fun c19 => ?_) (fun c19 => ?_)
      · rw [if_neg c19] at he
        refine bq_iinc (q := 28) (ls' := [_, _, _, _, _, _]) G dJ1_indexOfChar_4cfef_25 rfl rfl (by first | exact nI_1 _ | exact pk_m1 _ | rfl) (by decide) rfl rfl ?_
        refine bq_goto (q := 7) G dJ1_indexOfChar_4cfef_28 (by decide) ?_
        exact ih hk8 he
      · rw [if_pos c19] at he
        refine bq_iload (q := 24) G rfl dJ1_indexOfChar_4cfef_22 rfl ?_
        rw [he]
        exact hret _ _ dJ1_indexOfChar_4cfef_24
    · have hk9 : k = 6 := by omega
      subst hk9
      refine bq_iload (q := 9) G rfl dJ1_indexOfChar_4cfef_7 rfl ?_
      refine bq_iload_n (q := 10) G rfl dJ1_indexOfChar_4cfef_9 rfl ?_
      refine bq_icmp_ge_t (t := 31) G dJ1_indexOfChar_4cfef_10 (by decide) (nI_le (a := 6) (b := 6) (by omega) (by decide)) ?_
      refine bq_iconst (q := 32) (v := -1) G (by decide) dJ1_indexOfChar_4cfef_31 rfl ?_
      have he : (-1 : Int32) = tk_it (nI x) := he
      rw [he]
      exact hret _ _ dJ1_indexOfChar_4cfef_32
  refine bq_iload_n (q := 1) G rfl dJ1_indexOfChar_4cfef_0 rfl ?_
  refine bq_i2b (q := 2) G dJ1_indexOfChar_4cfef_1 rfl ?_
  refine bq_istore (q := 4) (ls' := [_, _, _, _, _, _]) G dJ1_indexOfChar_4cfef_2 rfl (by decide) rfl rfl ?_
  refine bq_iload_n (q := 5) G rfl dJ1_indexOfChar_4cfef_4 rfl ?_
  refine bq_istore (q := 7) (ls' := [_, _, _, _, _, _]) G dJ1_indexOfChar_4cfef_5 rfl (by decide) rfl rfl ?_
  exact loop 0 (by omega) (st_it x hx)
set_option maxHeartbeats 1000000 in
set_option maxRecDepth 100000 in
theorem c_J1_indexOf_4cfef {D : bq_D} {z n : Nat} {R : bq_RR} {I : bq_IR} {L : bq_LR} {x : Nat} (hx : x < 256) : bq_FD D MJ1_indexOf_4cfef z [.ref (D.2.2 4), .int (nI x), .int 0, .int 6] n R I L (tk_it (nI x)) := by
  refine bq_FDof [some (.ref (D.2.2 4)), some (.int (nI x)), some (.int 0), some (.int 6)] rfl (Nat.le_of_ble_eq_true rfl) (by decide +kernel) rfl rfl ?_
  intro A GD hret
  have GD : bq_CxD D cJ1_indexOf_4cfef RJ1 4 z (bq_rm MJ1_indexOf_4cfef 0 0) "indexOf" A := GD
  have G : bq_Cx cJ1_indexOf_4cfef RJ1 4 z (bq_rm MJ1_indexOf_4cfef 0 0) "indexOf" A := GD.cx
  refine bq_iload_n (q := 1) G rfl dJ1_indexOf_4cfef_0 rfl ?_
  refine bq_calls (q := 4) G dJ1_indexOf_4cfef_1 rfl cl_J1_88 (c_J1_canEncode_9a6ad) rfl rfl ⟨Nat.le_of_ble_eq_true rfl, Nat.le_of_ble_eq_true rfl⟩ (Nat.le_of_ble_eq_true rfl) ⟨Nat.le_of_ble_eq_true rfl, Nat.le_of_ble_eq_true rfl⟩ rfl ?_
  refine bq_if_ne_t (t := 9) G dJ1_indexOf_4cfef_4 (by decide) (by rw [if_pos ⟨nI_pos' (by omega), nI_le (b := 255) (by omega) (by decide)⟩]; decide) ?_
  refine bq_iload_n (q := 10) G rfl dJ1_indexOf_4cfef_9 rfl ?_
  refine bq_iconst (q := 11) (v := 0) G (by decide) dJ1_indexOf_4cfef_10 rfl ?_
  refine bq_calls (q := 14) G dJ1_indexOf_4cfef_11 rfl cl_J1_92 (c_J9_max_7cf53) rfl rfl ⟨Nat.le_of_ble_eq_true rfl, Nat.le_of_ble_eq_true rfl⟩ (Nat.le_of_ble_eq_true rfl) ⟨Nat.le_of_ble_eq_true rfl, Nat.le_of_ble_eq_true rfl⟩ rfl ?_
  refine bq_istore_n (q := 15) (ls' := [_, _, _, _]) G dJ1_indexOf_4cfef_14 rfl (by decide) rfl rfl ?_
  refine bq_iload_n (q := 16) G rfl dJ1_indexOf_4cfef_15 rfl ?_
  refine bq_aload_n (q := 17) G rfl dJ1_indexOf_4cfef_16 rfl ?_
  refine bq_sLe (q := 18) GD dJ1_indexOf_4cfef_17 rfl ?_
  refine bq_calls (q := 21) G dJ1_indexOf_4cfef_18 rfl cl_J1_38 (c_J9_min_7cf53) rfl rfl ⟨Nat.le_of_ble_eq_true rfl, Nat.le_of_ble_eq_true rfl⟩ (Nat.le_of_ble_eq_true rfl) ⟨Nat.le_of_ble_eq_true rfl, Nat.le_of_ble_eq_true rfl⟩ rfl ?_
  refine bq_istore_n (q := 22) (ls' := [_, _, _, _]) G dJ1_indexOf_4cfef_21 rfl (by decide) rfl rfl ?_
  refine bq_iload_n (q := 23) G rfl dJ1_indexOf_4cfef_22 rfl ?_
  refine bq_iload_n (q := 24) G rfl dJ1_indexOf_4cfef_23 rfl ?_
  refine bq_icmp_lt_t (t := 29) G dJ1_indexOf_4cfef_24 (by decide) (by decide) ?_
  refine bq_aload_n (q := 30) G rfl dJ1_indexOf_4cfef_29 rfl ?_
  refine bq_iload_n (q := 31) G rfl dJ1_indexOf_4cfef_30 rfl ?_
  refine bq_iload_n (q := 32) G rfl dJ1_indexOf_4cfef_31 rfl ?_
  refine bq_iload_n (q := 33) G rfl dJ1_indexOf_4cfef_32 rfl ?_
  refine bq_callsS (q := 36) GD dJ1_indexOf_4cfef_33 rfl cl_J1_95 (c_J1_indexOfChar_4cfef hx) rfl rfl ⟨Nat.le_of_ble_eq_true rfl, Nat.le_of_ble_eq_true rfl⟩ (Nat.le_of_ble_eq_true rfl) ⟨Nat.le_of_ble_eq_true rfl, Nat.le_of_ble_eq_true rfl⟩ ?_
  exact hret _ _ dJ1_indexOf_4cfef_36
set_option maxHeartbeats 1000000 in
set_option maxRecDepth 100000 in
theorem c_J0_indexOf_7cf53 {D : bq_D} {z n : Nat} {R : bq_RR} {I : bq_IR} {L : bq_LR} {x : Nat} (hx : x < 256) : bq_FD D MJ0_indexOf_7cf53 z [.ref (D.2.2 3), .int (nI x), .int 0] n R I L (tk_it (nI x)) := by
  refine bq_FDof [some (.ref (D.2.2 3)), some (.int (nI x)), some (.int 0)] rfl (Nat.le_of_ble_eq_true rfl) (by decide +kernel) rfl rfl ?_
  intro A GD hret
  have GD : bq_CxD D cJ0_indexOf_7cf53 RJ0 3 z (bq_rm MJ0_indexOf_7cf53 0 0) "indexOf" A := GD
  have G : bq_Cx cJ0_indexOf_7cf53 RJ0 3 z (bq_rm MJ0_indexOf_7cf53 0 0) "indexOf" A := GD.cx
  refine bq_aload_n (q := 1) G rfl dJ0_indexOf_7cf53_0 rfl ?_
  refine bq_callvS (q := 4) GD dJ0_indexOf_7cf53_1 rfl cb_J0_492 wn_J0_isLatin1_aae02 ws_J0_isLatin1_aae02 rfl (c_J0_isLatin1_aae02) rfl rfl ⟨Nat.le_of_ble_eq_true rfl, Nat.le_of_ble_eq_true rfl⟩ (Nat.le_of_ble_eq_true rfl) ⟨Nat.le_of_ble_eq_true rfl, Nat.le_of_ble_eq_true rfl⟩ ?_
  refine bq_if_eq_f (q := 7) (t := 23) G dJ0_indexOf_7cf53_4 rfl (by decide) (by decide) ?_
  refine bq_aload_n (q := 8) G rfl dJ0_indexOf_7cf53_7 rfl ?_
  refine bq_sVa (q := 11) GD dJ0_indexOf_7cf53_8 rfl fs_J0_9 ?_
  refine bq_iload_n (q := 12) G rfl dJ0_indexOf_7cf53_11 rfl ?_
  refine bq_iload_n (q := 13) G rfl dJ0_indexOf_7cf53_12 rfl ?_
  refine bq_aload_n (q := 14) G rfl dJ0_indexOf_7cf53_13 rfl ?_
  refine bq_callvS (q := 17) GD dJ0_indexOf_7cf53_14 rfl cb_J0_505 wn_J0_length_8abf5 ws_J0_length_8abf5 rfl (c_J0_length_8abf5) rfl rfl ⟨Nat.le_of_ble_eq_true rfl, Nat.le_of_ble_eq_true rfl⟩ (Nat.le_of_ble_eq_true rfl) ⟨Nat.le_of_ble_eq_true rfl, Nat.le_of_ble_eq_true rfl⟩ ?_
  refine bq_callsS (q := 20) GD dJ0_indexOf_7cf53_17 rfl cl_J0_637 (c_J1_indexOf_4cfef hx) rfl rfl ⟨Nat.le_of_ble_eq_true rfl, Nat.le_of_ble_eq_true rfl⟩ (Nat.le_of_ble_eq_true rfl) ⟨Nat.le_of_ble_eq_true rfl, Nat.le_of_ble_eq_true rfl⟩ ?_
  refine bq_goto (q := 36) G dJ0_indexOf_7cf53_20 (by decide) ?_
  exact hret _ _ dJ0_indexOf_7cf53_36
set_option maxHeartbeats 1000000 in
set_option maxRecDepth 100000 in
theorem c_J0_indexOf_0f7a4 {D : bq_D} {z n : Nat} {R : bq_RR} {I : bq_IR} {L : bq_LR} {x : Nat} (hx : x < 256) : bq_FD D MJ0_indexOf_0f7a4 z [.ref (D.2.2 3), .int (nI x)] n R I L (tk_it (nI x)) := by
  refine bq_FDof [some (.ref (D.2.2 3)), some (.int (nI x))] rfl (Nat.le_of_ble_eq_true rfl) (by decide +kernel) rfl rfl ?_
  intro A GD hret
  have GD : bq_CxD D cJ0_indexOf_0f7a4 RJ0 2 z (bq_rm MJ0_indexOf_0f7a4 0 0) "indexOf" A := GD
  have G : bq_Cx cJ0_indexOf_0f7a4 RJ0 2 z (bq_rm MJ0_indexOf_0f7a4 0 0) "indexOf" A := GD.cx
  refine bq_aload_n (q := 1) G rfl dJ0_indexOf_0f7a4_0 rfl ?_
  refine bq_iload_n (q := 2) G rfl dJ0_indexOf_0f7a4_1 rfl ?_
  refine bq_iconst (q := 3) (v := 0) G (by decide) dJ0_indexOf_0f7a4_2 rfl ?_
  refine bq_callvS (q := 6) GD dJ0_indexOf_0f7a4_3 rfl cb_J0_633 wn_J0_indexOf_7cf53 ws_J0_indexOf_7cf53 rfl (c_J0_indexOf_7cf53 hx) rfl rfl ⟨Nat.le_of_ble_eq_true rfl, Nat.le_of_ble_eq_true rfl⟩ (Nat.le_of_ble_eq_true rfl) ⟨Nat.le_of_ble_eq_true rfl, Nat.le_of_ble_eq_true rfl⟩ ?_
  exact hret _ _ dJ0_indexOf_0f7a4_6
