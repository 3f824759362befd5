/-! contracts that tell what holds behind the call, of any ints and longs -/
def bq_FP (M : bq_M) (z : Nat) (av : List Value) (n : Nat) (R : bq_RR) (I : bq_IR) (L : bq_LR) (res : Int32 → Option Value) (post : Int32 → bq_IR → bq_LR → Prop) : Prop :=
  ∀ (l : Launch) (D : bq_D), Met l M.1 (Cond.code M.1 M.2.1 M.2.2.1 M.2.2.2.1 :: bq_tbl) (bq_rm M 0 0) (va_Pc av (fun U => bq_KK z D U U.heap ∧ bq_Rel z D n R I L U.heap))
    (fun _ st o t => (∃ (r : Int32) (I' : bq_IR) (L' : bq_LR), o = .returned (res r) ∧ post r I' L' ∧ bq_Rel z D n R I' L' t.heap) ∧ va_F (fun q => z ≤ q) st t) 0 0 (fun q => z ≤ q)
abbrev bq_FI (M : bq_M) (z : Nat) (av : List Value) (n : Nat) (R : bq_RR) (I : bq_IR) (L : bq_LR) (post : Int32 → bq_IR → bq_LR → Prop) : Prop := bq_FP M z av n R I L (fun r => some (.int r)) post
abbrev bq_FV (M : bq_M) (z : Nat) (av : List Value) (n : Nat) (R : bq_RR) (I : bq_IR) (L : bq_LR) (post : bq_IR → bq_LR → Prop) : Prop := bq_FP M z av n R I L (fun _ => none) (fun _ => post)
theorem bq_FP.mono {M : bq_M} {z : Nat} {av : List Value} {n : Nat} {R : bq_RR} {I : bq_IR} {L : bq_LR} {res : Int32 → Option Value} {post post' : Int32 → bq_IR → bq_LR → Prop} (h : bq_FP M z av n R I L res post) (hp : ∀ r I' L', post r I' L' → post' r I' L') : bq_FP M z av n R I L res post' := by
  intro l D p e ha hc hk s m args below hf happ hP hK
  obtain ⟨k, o, h1, h2, h3, ⟨⟨r, I', L', e1, e2, e3⟩, e4⟩, e5⟩ := h l D p e ha hc hk s m args below hf happ hP hK
  exact ⟨k, o, h1, h2, h3, ⟨⟨r, I', L', e1, hp _ _ _ e2, e3⟩, e4⟩, e5⟩
theorem bq_FP.of {M : bq_M} {z : Nat} {av : List Value} {n : Nat} {R : bq_RR} {I : bq_IR} {L : bq_LR} {res : Int32 → Option Value} {post : Int32 → bq_IR → bq_LR → Prop} (ls0 : bq_LS) (hls : bq_pad M.2.2.1 (bq_fl av) = ls0) (hlen : (lg_sl av).length ≤ M.2.2.1) (hy : plainFor M.1 = true)
    (hres : (M.2.2.2.1 = none ∧ ∀ r, res r = none) ∨ (∃ ty : FieldType, M.2.2.2.1 = some ty ∧ (∀ r, res r = some (.int r)) ∧ ∀ r I' L', post r I' L' → narrow ty (.int r) = .int r))
    (h : ∀ A : bq_A, bq_Cx M.2.1 M.1.cls M.2.2.1 z (bq_rm M 0 0) M.1.name A →
      (∀ (pc : Nat) (ls : bq_LS) (r : Int32) (I' : bq_IR) (L' : bq_LR), post r I' L' → (res r = none → decode M.2.1 pc = .ok (.return_, 1) → A 0 0 pc ls [] n R I' L') ∧ (res r = some (.int r) → decode M.2.1 pc = .ok (.ireturn, 1) → A 0 0 pc ls [.int r] n R I' L')) →
      A 0 0 0 ls0 [] n R I L) : bq_FP M z av n R I L res post := by
  intro l D
  refine bq_ofW (cc := M.2.1) (maxL := M.2.2.1) (ret := M.2.2.2.1) hy rfl ?_
  intro p e s m args below meth c s₁ B hml hv
  obtain ⟨rfl, hKK, hRel⟩ := hv
  have hts := atoms_spec (ws := Cond.code M.1 M.2.1 M.2.2.1 M.2.2.2.1 :: bq_tbl) B.pre
  have hown : s.vm.findClass M.1.cls = some m.cls := findClass_of_methodNamed B.named
  have hlocks := B.notSynchronized
  have hr := B.returns
  have hin : meth.name = M.1.name := (name_of_methodNamed B.named B.method).1
  have hz : z ≤ s.heap.size := by rw [hRel.1]; exact Nat.le_add_right _ _
  have hl := lv_entry av (n := M.2.2.1) hlen
  rw [lg_entry_eq]
  generalize (lg_sl av ++ List.replicate (M.2.2.1 - (lg_sl av).length) Slot.unset).toArray = arr at hl ⊢
  have hLV : bq_LV arr M.2.2.1 ls0 := by
    refine ⟨hl.1, hl.2.1, fun k v hk => ?_⟩
    refine hl.2.2 (k, v) ?_
    have h2 : bq_at (bq_fl av) k = some v := bq_pad_at _ _ _ _ (by rw [hls]; exact hk)
    have h3 := bq_ent_at av 0 k v h2
    rwa [Nat.zero_add] at h3
  refine h _ ⟨p, l, e, s, m, av.toArray, below, meth, c, D, MQ below (fun _ st o t => (∃ (r : Int32) (I' : bq_IR) (L' : bq_LR), o = .returned (res r) ∧ post r I' L' ∧ bq_Rel z D n R I' L' t.heap) ∧ va_F (fun q => z ≤ q) st t) av.toArray s 0 0 (fun q => z ≤ q), B.exec, B.bytes, hml, hown, fun w hw => hts w (List.mem_cons_of_mem _ hw), hKK, hz, hin, rfl⟩ ?_ s.heap [] arr hRel va_S.rf hLV
  intro pc ls r I' L' hpost
  refine ⟨fun e hd => ?_, fun e hd => ?_⟩
  · intro H locs arr hR hS hl
    refine W.vret B.exec B.bytes ?_ (fun t ht hW => ⟨⟨r, I', L', by rw [e], hpost, by rw [ht]; exact hR⟩, hS.F ht⟩) hS.2.2 hd
    rcases hres with ⟨h1, -⟩ | ⟨ty, h0, h1, -⟩
    · rw [hr, h1]
    · rw [h1] at e; cases e
  · intro H locs arr hR hS hl
    rcases hres with ⟨-, h1⟩ | ⟨ty, h0, h1, h2⟩
    · rw [h1] at e; cases e
    · exact W.zret B.exec B.bytes (hr.trans h0) (h2 _ _ _ hpost) (fun t ht hW => ⟨⟨r, I', L', by rw [e], hpost, by rw [ht]; exact hR⟩, hS.F ht⟩) hS.2.2 hd
theorem bq_FIof {M : bq_M} {z : Nat} {av : List Value} {n : Nat} {R : bq_RR} {I : bq_IR} {L : bq_LR} {post : Int32 → bq_IR → bq_LR → Prop} (ls0 : bq_LS) (hls : bq_pad M.2.2.1 (bq_fl av) = ls0) (hlen : (lg_sl av).length ≤ M.2.2.1) (hy : plainFor M.1 = true) {ty : FieldType} (hty : M.2.2.2.1 = some ty) (hnar : ∀ r I' L', post r I' L' → narrow ty (.int r) = .int r)
    (h : ∀ A : bq_A, bq_Cx M.2.1 M.1.cls M.2.2.1 z (bq_rm M 0 0) M.1.name A → (∀ (pc : Nat) (ls : bq_LS) (r : Int32) (I' : bq_IR) (L' : bq_LR), decode M.2.1 pc = .ok (.ireturn, 1) → post r I' L' → A 0 0 pc ls [.int r] n R I' L') → A 0 0 0 ls0 [] n R I L) : bq_FI M z av n R I L post :=
  bq_FP.of ls0 hls hlen hy (Or.inr ⟨ty, hty, fun _ => rfl, hnar⟩) fun A G hr => h A G fun pc ls r I' L' hd hp => (hr pc ls r I' L' hp).2 rfl hd
theorem bq_FVof {M : bq_M} {z : Nat} {av : List Value} {n : Nat} {R : bq_RR} {I : bq_IR} {L : bq_LR} {post : bq_IR → bq_LR → Prop} (ls0 : bq_LS) (hls : bq_pad M.2.2.1 (bq_fl av) = ls0) (hlen : (lg_sl av).length ≤ M.2.2.1) (hy : plainFor M.1 = true) (hty : M.2.2.2.1 = none)
    (h : ∀ A : bq_A, bq_Cx M.2.1 M.1.cls M.2.2.1 z (bq_rm M 0 0) M.1.name A → (∀ (pc : Nat) (ls : bq_LS) (I' : bq_IR) (L' : bq_LR), decode M.2.1 pc = .ok (.return_, 1) → post I' L' → A 0 0 pc ls [] n R I' L') → A 0 0 0 ls0 [] n R I L) : bq_FV M z av n R I L post :=
  bq_FP.of ls0 hls hlen hy (Or.inl ⟨hty, fun _ => rfl⟩) fun A G hr => h A G fun pc ls I' L' hd hp => (hr pc ls 0 I' L' hp).1 rfl hd
theorem bq_contP {Rm : Room} {z n cells slots pc : Nat} {R : bq_RR} {st : List Value} {p : Program} {l : Launch} {e : Env} {s : State} {m : MethodId} {args : Array Value} {below : List Frame} {meth : Method} {c : Code} {D : bq_D} {Q : State → Prop} {H : Heap} {locs : List Loc} {arr : Array Slot} {res : Int32 → Option Value} {post : Int32 → bq_IR → bq_LR → Prop} {rest : List Value}
    (hr : va_Run p l e Rm s m args below meth c H locs cells slots 0 0 (F0 m pc arr st) rest (fun st o t => (∃ (r : Int32) (I' : bq_IR) (L' : bq_LR), o = .returned (res r) ∧ post r I' L' ∧ bq_Rel z D n R I' L' t.heap) ∧ va_F (fun q => z ≤ q) st t) (fun q => z ≤ q)) (hS : va_S (fun q => z ≤ q) s.heap H locs)
    (kk : ∀ (r : Int32) (I' : bq_IR) (L' : bq_LR), post r I' L' → ∀ (H1 : Heap) (locs1 : List Loc), bq_Rel z D n R I' L' H1 → va_S (fun q => z ≤ q) s.heap H1 locs1 → W p l e Rm s m args below meth c H1 locs1 cells slots Q (F0 m (pc + 3) arr ((res r).toList ++ rest))) : W p l e Rm s m args below meth c H locs cells slots Q (F0 m pc arr st) := by
  intro T hT X
  obtain ⟨v, st₀, t, T', L0, h0, X', hL, e1, e2, ⟨⟨r, I', L', hv, hp, hb⟩, hz, hk⟩, stp⟩ := hr T hT X
  cases hv
  rw [h0] at hz hk
  obtain ⟨t2, a1, b1⟩ := kk r I' L' hp T'.heap (locs ++ L0) (by rw [e1]; exact hb)
    ⟨Nat.le_trans hS.1 (by rw [e1]; exact hz), fun q h1 h2 => by rw [e1, hk q (Nat.lt_of_lt_of_le h1 hS.1) h2]; exact hS.2.1 q h1 h2, fun q hq => by
      rcases List.mem_append.mp hq with h | h
      · exact hS.2.2 q h
      · exact hL q h⟩ T' rfl X'
  exact ⟨t2, stp t2 a1, b1⟩
section BqCallsP
variable {cc : ByteArray} {own nm : String} {nL z : Nat} {Rm : Room} {A : bq_A} {cells slots pc q n : Nat} {ls : bq_LS} {st : List Value} {R : bq_RR} {I : bq_IR} {L : bq_LR}
variable {M : bq_M} {np idx : Nat} {post : Int32 → bq_IR → bq_LR → Prop} {postv : bq_IR → bq_LR → Prop} {rest As : List Value}
theorem bq_callvI (G : bq_Cx cc own nL z Rm nm A) {a ci : Nat} (hd : decode cc pc = .ok (.invokevirtual idx, 3)) (hp : pc + 3 = q) (hC : bq_CV own idx M np ci) (F : bq_FI M z (.ref (z + a) :: As) n R I L post) (hs : st = As.reverse ++ .ref (z + a) :: rest) (ho : bq_OB n a ci) (hnp : As.length = np) (hfit : bq_fit M Rm) (hroom : (rest.map fun v => v.category).sum ≤ 8) (hcs : cells + 0 ≤ Rm.cells ∧ slots + 0 ≤ Rm.slots) (k : ∀ (r : Int32) (I' : bq_IR) (L' : bq_LR), post r I' L' → A cells slots q ls (.int r :: rest) n R I' L') : A cells slots pc ls st n R I L := by
  obtain ⟨p, l, e, s, m, args, below, meth, c, D, Q, hx, hb, hml, hown, hts, hK, hz, hnm, rfl⟩ := G
  subst hp
  intro H locs arr hR hS hl
  have hpre := bq_pre (av := .ref (z + a) :: As) hK hS hR
  refine bq_contP (va_runV (As := As) (rest := rest) ⟨hx, hb, hml, hown, hts⟩ (F l D) ⟨bq_callB hts hC.1 hfit, hts _ hC.2.1, hts _ hC.2.2.1⟩ ⟨hpre.1, ?_, hpre.2⟩ rfl hnp hl.1 hs (lv_room hroom) hd hcs) hS (fun r I' L' hp H1 locs1 hR1 hS1 => k r I' L' hp H1 locs1 arr hR1 hS1 hl)
  rw [← hC.2.2.2.2]
  exact bq_recv hK hR hC.2.2.2.1 ho
theorem bq_callvV (G : bq_Cx cc own nL z Rm nm A) {a ci : Nat} (hd : decode cc pc = .ok (.invokevirtual idx, 3)) (hp : pc + 3 = q) (hC : bq_CV own idx M np ci) (F : bq_FV M z (.ref (z + a) :: As) n R I L postv) (hs : st = As.reverse ++ .ref (z + a) :: rest) (ho : bq_OB n a ci) (hnp : As.length = np) (hfit : bq_fit M Rm) (hroom : (rest.map fun v => v.category).sum ≤ 8) (hcs : cells + 0 ≤ Rm.cells ∧ slots + 0 ≤ Rm.slots) (k : ∀ (I' : bq_IR) (L' : bq_LR), postv I' L' → A cells slots q ls rest n R I' L') : A cells slots pc ls st n R I L := by
  obtain ⟨p, l, e, s, m, args, below, meth, c, D, Q, hx, hb, hml, hown, hts, hK, hz, hnm, rfl⟩ := G
  subst hp
  intro H locs arr hR hS hl
  have hpre := bq_pre (av := .ref (z + a) :: As) hK hS hR
  refine bq_contP (va_runV (As := As) (rest := rest) ⟨hx, hb, hml, hown, hts⟩ (F l D) ⟨bq_callB hts hC.1 hfit, hts _ hC.2.1, hts _ hC.2.2.1⟩ ⟨hpre.1, ?_, hpre.2⟩ rfl hnp hl.1 hs (lv_room hroom) hd hcs) hS (fun r I' L' hp H1 locs1 hR1 hS1 => k I' L' hp H1 locs1 arr hR1 hS1 hl)
  rw [← hC.2.2.2.2]
  exact bq_recv hK hR hC.2.2.2.1 ho
end BqCallsP
theorem bq_FC.toI {M : bq_M} {z : Nat} {av : List Value} {n : Nat} {R : bq_RR} {I : bq_IR} {L : bq_LR} {r : Int32} {I' : bq_IR} {L' : bq_LR} (h : bq_FC M z av n R I L 0 0 (some (.int r)) n R I' L') {post : Int32 → bq_IR → bq_LR → Prop} (hp : post r I' L') : bq_FI M z av n R I L post := by
  intro l D p e ha hc hk s m args below hf happ hP hK
  obtain ⟨k, o, h1, h2, h3, ⟨e1, e2, e3⟩, e5⟩ := h l D p e ha hc hk s m args below hf happ hP hK
  exact ⟨k, o, h1, h2, h3, ⟨⟨r, I', L', e1, hp, e2⟩, e3⟩, e5⟩
theorem bq_FC.toV {M : bq_M} {z : Nat} {av : List Value} {n : Nat} {R : bq_RR} {I : bq_IR} {L : bq_LR} {I' : bq_IR} {L' : bq_LR} (h : bq_FC M z av n R I L 0 0 none n R I' L') {post : bq_IR → bq_LR → Prop} (hp : post I' L') : bq_FV M z av n R I L post := by
  intro l D p e ha hc hk s m args below hf happ hP hK
  obtain ⟨k, o, h1, h2, h3, ⟨e1, e2, e3⟩, e5⟩ := h l D p e ha hc hk s m args below hf happ hP hK
  exact ⟨k, o, h1, h2, h3, ⟨⟨0, I', L', e1, hp, e2⟩, e3⟩, e5⟩
