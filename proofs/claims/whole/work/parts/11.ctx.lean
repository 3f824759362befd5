/-! a method's context, and what a contract is -/
def bq_AF (j : Nat) : Value := .int (([0, 4, 0, 10, 8] : List Int32).getD j 0)
def bq_LE (j : Nat) : Value := .int (([0, 1, 0, 0, 1, 1, 1, 1] : List Int32).getD j 0)
def bq_GR (j : Nat) : Value := .int (([99, 20, 20, 99, 8, 64, 40, 40] : List Int32).getD j 0)
def bq_wad : List (List Int32) := [[119, 97, 100, 109, 115, 98]]
/-- what the tables and the old heap say, beside the words -/
def bq_KK (z : Nat) (D : bq_D) (U : State) (H : Heap) : Prop :=
  va_K D.1 vwCl (bq_tys D) U ∧ (va_Nw (.methodLinkNest RX8 67 yX1_init RX8) U ∧ va_Nw (.methodLinkNest RX8 78 yX2_init RX8) U ∧ va_Nw (.methodLinkNest RX7 61 yX8_bitOf RX8) U ∧ va_Nw (.methodLinkNest RX5 43 yX8_bitOf RX8) U) ∧
  va_AO "BroomFlood$Moment" U ∧
  (va_Z RX0 "AT_FIRST" "[I" (.ref (D.2.2 0)) (fun q => z ≤ q) U H ∧ va_T .int (D.2.2 0) 5 bq_AF (fun q => z ≤ q) U H) ∧
  (va_Z RX7 "LEAST" "[I" (.ref (D.2.2 1)) (fun q => z ≤ q) U H ∧ va_T .int (D.2.2 1) 8 bq_LE (fun q => z ≤ q) U H) ∧
  (va_Z RX7 "GREATEST" "[I" (.ref (D.2.2 2)) (fun q => z ≤ q) U H ∧ va_T .int (D.2.2 2) 8 bq_GR (fun q => z ≤ q) U H) ∧
  vk_R RX7 36 "wadmsb" (D.2.2 3) U ∧ vk_S 1 [6] bq_wad (fun _ => D.2.2 3) (fun _ => D.2.2 4) (fun q => z ≤ q) U H ∧
  va_Z "java/lang/String" "COMPACT_STRINGS" "Z" (.int 1) (fun q => z ≤ q) U H
theorem bq_KK.call {z : Nat} {D : bq_D} {U : State} {H : Heap} (h : bq_KK z D U H) (g : JFrame) (mk : MethodId) (a : Array Value) : bq_KK z D (U.calling g mk a) H := by
  obtain ⟨h1, ⟨n1, n2, n3, n4⟩, h3, ⟨a1, a2⟩, ⟨b1, b2⟩, ⟨c1, c2⟩, r1, s1, cs⟩ := h
  have hv : U.vm.Alike (U.calling g mk a).vm := Vm.Alike.refl U.vm
  exact ⟨va_K.moved hv h1, ⟨va_Nw.same rfl rfl n1, va_Nw.same rfl rfl n2, va_Nw.same rfl rfl n3, va_Nw.same rfl rfl n4⟩, va_AO.moved hv h3, ⟨a1.moved hv, a2.moved hv⟩, ⟨b1.moved hv, b2.moved hv⟩, ⟨c1.moved hv, c2.moved hv⟩, vk_R.same rfl r1, vk_S.moved hv s1, cs.moved hv⟩
theorem bq_KK.go {z : Nat} {D : bq_D} {s U : State} {H : Heap} {locs : List Loc} (h : bq_KK z D s s.heap) (hW : s.WarmedH U.vm) (hS : va_S (fun q => z ≤ q) s.heap H locs) : bq_KK z D U H := by
  obtain ⟨h1, ⟨n1, n2, n3, n4⟩, h3, ⟨a1, a2⟩, ⟨b1, b2⟩, ⟨c1, c2⟩, r1, s1, cs⟩ := h
  have hv := hW.alike
  have hq := hS.2.1
  exact ⟨va_K.moved hv h1, ⟨va_Nw.warmM hW n1, va_Nw.warmM hW n2, va_Nw.warmM hW n3, va_Nw.warmM hW n4⟩, va_AO.moved hv h3, ⟨(a1.moved hv).kept hq, (a2.moved hv).kept hq⟩, ⟨(b1.moved hv).kept hq, (b2.moved hv).kept hq⟩, ⟨(c1.moved hv).kept hq, (c2.moved hv).kept hq⟩, vk_R.warm hW r1, vk_S.kept (vk_S.moved hv s1) hq, (cs.moved hv).kept hq⟩
abbrev bq_A : Type := Nat → Nat → Nat → bq_LS → List Value → Nat → bq_RR → bq_IR → bq_LR → Prop
def bq_Cx (cc : ByteArray) (own : String) (nL z : Nat) (Rm : Room) (nm : String) (A : bq_A) : Prop :=
  ∃ (p : Program) (l : Launch) (e : Env) (s : State) (m : MethodId) (args : Array Value) (below : List Frame) (meth : Method) (c : Code) (D : bq_D) (Q : State → Prop),
    p.tables.exec = Jvm.exec ∧ c.code = cc ∧ c.maxLocals = nL ∧ s.vm.findClass own = some m.cls ∧ (∀ w ∈ bq_tbl, w.before args s = true) ∧ bq_KK z D s s.heap ∧ z ≤ s.heap.size ∧ meth.name = nm ∧
    A = fun cells slots pc ls st n R I L => ∀ (H : Heap) (locs : List Loc) (arr : Array Slot), bq_Rel z D n R I L H → va_S (fun q => z ≤ q) s.heap H locs → bq_LV arr nL ls → W p l e Rm s m args below meth c H locs cells slots Q (F0 m pc arr st)
abbrev bq_M : Type := MethodName × ByteArray × Nat × Option FieldType × Nat × Nat
def bq_rm (M : bq_M) (mc ms : Nat) : Room := { frames := M.2.2.2.2.1, cells := mc, slots := ms, locals := M.2.2.2.2.2 }
def bq_FC (M : bq_M) (z : Nat) (av : List Value) (n : Nat) (R : bq_RR) (I : bq_IR) (L : bq_LR) (mc ms : Nat) (res : Option Value) (n' : Nat) (R' : bq_RR) (I' : bq_IR) (L' : bq_LR) : Prop :=
  ∀ (l : Launch) (D : bq_D), Met l M.1 (Cond.code M.1 M.2.1 M.2.2.1 M.2.2.2.1 :: bq_tbl) (bq_rm M mc ms) (va_Pc av (fun U => bq_KK z D U U.heap ∧ bq_Rel z D n R I L U.heap))
    (fun _ st o t => o = .returned res ∧ bq_Rel z D n' R' I' L' t.heap ∧ va_F (fun q => z ≤ q) st t) mc ms (fun q => z ≤ q)
def bq_fl : List Value → bq_LS
  | [] => []
  | .long x :: l => some (.long x) :: none :: bq_fl l
  | .double x :: l => some (.double x) :: none :: bq_fl l
  | v :: l => some v :: bq_fl l
def bq_pad : Nat → bq_LS → bq_LS
  | 0, _ => []
  | n + 1, [] => none :: bq_pad n []
  | n + 1, a :: l => a :: bq_pad n l
theorem bq_pad_at : ∀ (n : Nat) (l : bq_LS) (k : Nat) (v : Value), bq_at (bq_pad n l) k = some v → bq_at l k = some v
  | 0, l, k, v, h => by simp [bq_pad, bq_at] at h
  | n + 1, [], 0, v, h => by simp [bq_pad, bq_at] at h
  | n + 1, [], k + 1, v, h => by
    have h1 := bq_pad_at n [] k v h
    simp [bq_at] at h1
  | n + 1, a :: l, 0, v, h => h
  | n + 1, a :: l, k + 1, v, h => bq_pad_at n l k v h
theorem bq_ent_at : ∀ (av : List Value) (i k : Nat) (v : Value), bq_at (bq_fl av) k = some v → (i + k, v) ∈ lv_args i av
  | [], i, k, v, h => by simp [bq_fl, bq_at] at h
  | a :: av, i, k, v, h => by
    have one : ∀ w : Value, w.category = 1 → bq_fl (w :: av) = some w :: bq_fl av → a = w → (i + k, v) ∈ lv_args i (a :: av) := by
      intro w hc he e
      subst e
      rw [he] at h
      cases k with
      | zero =>
        have h' : a = v := Option.some.inj h
        subst h'
        exact List.mem_cons_self
      | succ k =>
        have h1 := bq_ent_at av (i + 1) k v h
        rw [show i + 1 + k = i + (k + 1) by omega] at h1
        unfold lv_args
        rw [if_neg (by omega)]
        exact List.mem_cons_of_mem _ h1
    have two : ∀ w : Value, w.category = 2 → bq_fl (w :: av) = some w :: none :: bq_fl av → a = w → (i + k, v) ∈ lv_args i (a :: av) := by
      intro w hc he e
      subst e
      rw [he] at h
      match k, h with
      | 0, h =>
        have h' : a = v := Option.some.inj h
        subst h'
        exact List.mem_cons_self
      | 1, h => cases h
      | k + 2, h =>
        have h1 := bq_ent_at av (i + 2) k v h
        rw [show i + 2 + k = i + (k + 2) by omega] at h1
        unfold lv_args
        rw [if_pos hc]
        exact List.mem_cons_of_mem _ h1
    cases a <;> first | exact one _ rfl rfl rfl | exact two _ rfl rfl rfl
theorem bq_LV.le {arr : Array Slot} {nL : Nat} {ls ls' : bq_LS} (h : bq_LV arr nL ls) (hs : ∀ (k : Nat) (v : Value), bq_at ls' k = some v → bq_at ls k = some v) : bq_LV arr nL ls' := ⟨h.1, h.2.1, fun k v hk => h.2.2 k v (hs k v hk)⟩
theorem bq_ofW {l : Launch} {y : MethodName} {ws ws' : List Cond} {rm : Room} {Pc : Array Value → State → Prop} {Qc : Array Value → State → Outcome → State → Prop} {mc ms : Nat} {free : Addr → Prop} {cc : ByteArray} {maxL : Nat} {ret : Option FieldType}
    (hy : plainFor y = true) (hw : ws = Cond.code y cc maxL ret :: ws')
    (body : ∀ p e s m args below meth c s₁, BodyLoose p l y (headSpec ws rm) cc maxL ret e s m args below meth c s₁ → c.maxLocals = maxL → Pc args s →
      W p l e (headSpec ws rm).room s m args below meth c s.heap [] 0 0 (MQ below Qc args s mc ms free) (entryFrame m args maxL)) : Met l y ws rm Pc Qc mc ms free := by
  refine MetFree.of_bodySF (code := cc) (maxLocals := maxL) (ret := ret) hy ?_ ?_
  · intro args s m h hn
    obtain ⟨meth, c, h1, h2, h3, h4, h5, h6, -, -⟩ := Cond.code_spec hn (atoms_spec (ws := ws) h _ (by rw [hw]; exact List.mem_cons_self))
    exact ⟨meth, c, h1, h2, h3, h4, h5, h6⟩
  · intro p e s m args below meth c s₁ B hml hP _
    have hh0 : s₁.heap = s.heap := by rw [B.state]; rfl
    obtain ⟨t, a1, o, b1, b2, b3⟩ := body p e s m args below meth c s₁ B hml hP s₁ hh0 (Stand.of_body B)
    exact ⟨t, o, a1, b1, b2, ⟨b3.1, b3.2⟩⟩
/-- the entry: a contract out of a walk -/
theorem bq_FC.of {M : bq_M} {z : Nat} {av : List Value} {n : Nat} {R : bq_RR} {I : bq_IR} {L : bq_LR} {mc ms : Nat} {res : Option Value} {n' : Nat} {R' : bq_RR} {I' : bq_IR} {L' : bq_LR} (ls0 : bq_LS) (hls : bq_pad M.2.2.1 (bq_fl av) = ls0) (hlen : (lg_sl av).length ≤ M.2.2.1) (hy : plainFor M.1 = true)
    (hres : (res = none ∧ M.2.2.2.1 = none) ∨ (∃ (r : Int32) (ty : FieldType), res = some (.int r) ∧ M.2.2.2.1 = some ty ∧ narrow ty (.int r) = .int r) ∨ (∃ r : Int64, res = some (.long r) ∧ M.2.2.2.1 = some .long))
    (h : ∀ A : bq_A, bq_Cx M.2.1 M.1.cls M.2.2.1 z (bq_rm M mc ms) M.1.name A →
      (∀ (pc : Nat) (ls : bq_LS), (res = none → decode M.2.1 pc = .ok (.return_, 1) → A mc ms pc ls [] n' R' I' L') ∧ (∀ r : Int32, res = some (.int r) → decode M.2.1 pc = .ok (.ireturn, 1) → A mc ms pc ls [.int r] n' R' I' L') ∧ (∀ r : Int64, res = some (.long r) → decode M.2.1 pc = .ok (.lreturn, 1) → A mc ms pc ls [.long r] n' R' I' L')) →
      A 0 0 0 ls0 [] n R I L) : bq_FC M z av n R I L mc ms res n' R' I' L' := by
  intro l D
  refine bq_ofW (cc := M.2.1) (maxL := M.2.2.1) (ret := M.2.2.2.1) hy rfl ?_
  intro p e s m args below meth c s₁ B hml hv
  obtain ⟨rfl, hKK, hRel⟩ := hv
  have hts := atoms_spec (ws := Cond.code M.1 M.2.1 M.2.2.1 M.2.2.2.1 :: bq_tbl) B.pre
  have hown : s.vm.findClass M.1.cls = some m.cls := findClass_of_methodNamed B.named
  have hlocks := B.notSynchronized
  have hr := B.returns
  have hin : meth.name = M.1.name := (name_of_methodNamed B.named B.method).1
  have hz : z ≤ s.heap.size := by rw [hRel.1]; exact Nat.le_add_right _ _
  have hl := lv_entry av (n := M.2.2.1) hlen
  rw [lg_entry_eq]
  generalize (lg_sl av ++ List.replicate (M.2.2.1 - (lg_sl av).length) Slot.unset).toArray = arr at hl ⊢
  have hLV : bq_LV arr M.2.2.1 ls0 := by
    refine ⟨hl.1, hl.2.1, fun k v hk => ?_⟩
    refine hl.2.2 (k, v) ?_
    have h2 : bq_at (bq_fl av) k = some v := bq_pad_at _ _ _ _ (by rw [hls]; exact hk)
    have h3 := bq_ent_at av 0 k v h2
    rwa [Nat.zero_add] at h3
  refine h _ ⟨p, l, e, s, m, av.toArray, below, meth, c, D, MQ below (fun _ st o t => o = .returned res ∧ bq_Rel z D n' R' I' L' t.heap ∧ va_F (fun q => z ≤ q) st t) av.toArray s mc ms (fun q => z ≤ q), B.exec, B.bytes, hml, hown, fun w hw => hts w (List.mem_cons_of_mem _ hw), hKK, hz, hin, rfl⟩ ?_ s.heap [] arr hRel va_S.rf hLV
  intro pc ls
  refine ⟨fun e hd => ?_, fun r e hd => ?_, fun r e hd => ?_⟩
  · intro H locs arr hR hS hl
    refine W.vret B.exec B.bytes ?_ (fun t ht hW => ⟨by rw [e], by rw [ht]; exact hR, hS.F ht⟩) hS.2.2 hd
    rcases hres with ⟨-, h1⟩ | ⟨r, ty, h0, -⟩ | ⟨r, h0, -⟩
    · rw [hr, h1]
    · rw [e] at h0; cases h0
    · rw [e] at h0; cases h0
  · intro H locs arr hR hS hl
    rcases hres with ⟨h0, h1⟩ | ⟨r', ty, h0, h1, h2⟩ | ⟨r, h0, -⟩
    · rw [e] at h0; cases h0
    · rw [e] at h0; cases h0
      exact W.zret B.exec B.bytes (hr.trans h1) h2 (fun t ht hW => ⟨by rw [e], by rw [ht]; exact hR, hS.F ht⟩) hS.2.2 hd
    · rw [e] at h0; cases h0
  · intro H locs arr hR hS hl
    rcases hres with ⟨h0, h1⟩ | ⟨r', ty, h0, h1, h2⟩ | ⟨r', h0, h1⟩
    · rw [e] at h0; cases h0
    · rw [e] at h0; cases h0
    · rw [e] at h0; cases h0
      exact W.lret B.exec B.bytes (hr.trans h1) (fun t ht hW => ⟨by rw [e], by rw [ht]; exact hR, hS.F ht⟩) hS.2.2 hd
theorem bq_ofI {M : bq_M} {z : Nat} {av : List Value} {n : Nat} {R : bq_RR} {I : bq_IR} {L : bq_LR} {mc ms : Nat} {r : Int32} {n' : Nat} {R' : bq_RR} {I' : bq_IR} {L' : bq_LR} (ls0 : bq_LS) (hls : bq_pad M.2.2.1 (bq_fl av) = ls0) (hlen : (lg_sl av).length ≤ M.2.2.1) (hy : plainFor M.1 = true) {ty : FieldType} (hty : M.2.2.2.1 = some ty) (hn : narrow ty (.int r) = .int r)
    (h : ∀ A : bq_A, bq_Cx M.2.1 M.1.cls M.2.2.1 z (bq_rm M mc ms) M.1.name A → (∀ (pc : Nat) (ls : bq_LS), decode M.2.1 pc = .ok (.ireturn, 1) → A mc ms pc ls [.int r] n' R' I' L') → A 0 0 0 ls0 [] n R I L) : bq_FC M z av n R I L mc ms (some (.int r)) n' R' I' L' :=
  bq_FC.of ls0 hls hlen hy (Or.inr (Or.inl ⟨r, ty, rfl, hty, hn⟩)) fun A G hr => h A G fun pc ls => (hr pc ls).2.1 r rfl
theorem bq_ofL {M : bq_M} {z : Nat} {av : List Value} {n : Nat} {R : bq_RR} {I : bq_IR} {L : bq_LR} {mc ms : Nat} {r : Int64} {n' : Nat} {R' : bq_RR} {I' : bq_IR} {L' : bq_LR} (ls0 : bq_LS) (hls : bq_pad M.2.2.1 (bq_fl av) = ls0) (hlen : (lg_sl av).length ≤ M.2.2.1) (hy : plainFor M.1 = true) (hty : M.2.2.2.1 = some .long)
    (h : ∀ A : bq_A, bq_Cx M.2.1 M.1.cls M.2.2.1 z (bq_rm M mc ms) M.1.name A → (∀ (pc : Nat) (ls : bq_LS), decode M.2.1 pc = .ok (.lreturn, 1) → A mc ms pc ls [.long r] n' R' I' L') → A 0 0 0 ls0 [] n R I L) : bq_FC M z av n R I L mc ms (some (.long r)) n' R' I' L' :=
  bq_FC.of ls0 hls hlen hy (Or.inr (Or.inr ⟨r, rfl, hty⟩)) fun A G hr => h A G fun pc ls => (hr pc ls).2.2 r rfl
theorem bq_ofV {M : bq_M} {z : Nat} {av : List Value} {n : Nat} {R : bq_RR} {I : bq_IR} {L : bq_LR} {mc ms : Nat} {n' : Nat} {R' : bq_RR} {I' : bq_IR} {L' : bq_LR} (ls0 : bq_LS) (hls : bq_pad M.2.2.1 (bq_fl av) = ls0) (hlen : (lg_sl av).length ≤ M.2.2.1) (hy : plainFor M.1 = true) (hty : M.2.2.2.1 = none)
    (h : ∀ A : bq_A, bq_Cx M.2.1 M.1.cls M.2.2.1 z (bq_rm M mc ms) M.1.name A → (∀ (pc : Nat) (ls : bq_LS), decode M.2.1 pc = .ok (.return_, 1) → A mc ms pc ls [] n' R' I' L') → A 0 0 0 ls0 [] n R I L) : bq_FC M z av n R I L mc ms none n' R' I' L' :=
  bq_FC.of ls0 hls hlen hy (Or.inl ⟨rfl, hty⟩) fun A G hr => h A G fun pc ls => (hr pc ls).1 rfl
