section BqRows
variable {cc : ByteArray} {own nm : String} {nL z : Nat} {Rm : Room} {A : bq_A} {cells slots pc q n : Nat} {ls : bq_LS} {st : List Value} {R : bq_RR} {I : bq_IR} {L : bq_LR}
theorem bq_iadd (G : bq_Cx cc own nL z Rm nm A) {x y : Int32} (hd : decode cc pc = .ok (.iadd, 1)) (hp : pc + 1 = q) (k : A cells slots q ls (.int (x + y) :: st) n R I L) : A cells slots pc ls (.int y :: .int x :: st) n R I L := by
  obtain ⟨p, l, e, s, m, args, below, meth, c, D, Q, hx, hb, hml, hown, hts, hK, hz, hnm, rfl⟩ := G
  subst hp
  intro H locs arr hR hS hl
  exact lv_iadd hx hb hd (k H locs arr hR hS hl)
theorem bq_isub (G : bq_Cx cc own nL z Rm nm A) {x y : Int32} (hd : decode cc pc = .ok (.isub, 1)) (hp : pc + 1 = q) (k : A cells slots q ls (.int (x - y) :: st) n R I L) : A cells slots pc ls (.int y :: .int x :: st) n R I L := by
  obtain ⟨p, l, e, s, m, args, below, meth, c, D, Q, hx, hb, hml, hown, hts, hK, hz, hnm, rfl⟩ := G
  subst hp
  intro H locs arr hR hS hl
  exact lv_isub hx hb hd (k H locs arr hR hS hl)
theorem bq_imul (G : bq_Cx cc own nL z Rm nm A) {x y : Int32} (hd : decode cc pc = .ok (.imul, 1)) (hp : pc + 1 = q) (k : A cells slots q ls (.int (x * y) :: st) n R I L) : A cells slots pc ls (.int y :: .int x :: st) n R I L := by
  obtain ⟨p, l, e, s, m, args, below, meth, c, D, Q, hx, hb, hml, hown, hts, hK, hz, hnm, rfl⟩ := G
  subst hp
  intro H locs arr hR hS hl
  exact lv_imul hx hb hd (k H locs arr hR hS hl)
theorem bq_iand (G : bq_Cx cc own nL z Rm nm A) {x y : Int32} (hd : decode cc pc = .ok (.iand, 1)) (hp : pc + 1 = q) (k : A cells slots q ls (.int (x &&& y) :: st) n R I L) : A cells slots pc ls (.int y :: .int x :: st) n R I L := by
  obtain ⟨p, l, e, s, m, args, below, meth, c, D, Q, hx, hb, hml, hown, hts, hK, hz, hnm, rfl⟩ := G
  subst hp
  intro H locs arr hR hS hl
  exact lv_iand hx hb hd (k H locs arr hR hS hl)
theorem bq_ior (G : bq_Cx cc own nL z Rm nm A) {x y : Int32} (hd : decode cc pc = .ok (.ior, 1)) (hp : pc + 1 = q) (k : A cells slots q ls (.int (x ||| y) :: st) n R I L) : A cells slots pc ls (.int y :: .int x :: st) n R I L := by
  obtain ⟨p, l, e, s, m, args, below, meth, c, D, Q, hx, hb, hml, hown, hts, hK, hz, hnm, rfl⟩ := G
  subst hp
  intro H locs arr hR hS hl
  exact lv_ior hx hb hd (k H locs arr hR hS hl)
theorem bq_ixor (G : bq_Cx cc own nL z Rm nm A) {x y : Int32} (hd : decode cc pc = .ok (.ixor, 1)) (hp : pc + 1 = q) (k : A cells slots q ls (.int (x ^^^ y) :: st) n R I L) : A cells slots pc ls (.int y :: .int x :: st) n R I L := by
  obtain ⟨p, l, e, s, m, args, below, meth, c, D, Q, hx, hb, hml, hown, hts, hK, hz, hnm, rfl⟩ := G
  subst hp
  intro H locs arr hR hS hl
  exact lv_ixor hx hb hd (k H locs arr hR hS hl)
theorem bq_ishl (G : bq_Cx cc own nL z Rm nm A) {x y : Int32} (hd : decode cc pc = .ok (.ishl, 1)) (hp : pc + 1 = q) (k : A cells slots q ls (.int (x <<< (y &&& 31)) :: st) n R I L) : A cells slots pc ls (.int y :: .int x :: st) n R I L := by
  obtain ⟨p, l, e, s, m, args, below, meth, c, D, Q, hx, hb, hml, hown, hts, hK, hz, hnm, rfl⟩ := G
  subst hp
  intro H locs arr hR hS hl
  exact lv_ishl hx hb hd (k H locs arr hR hS hl)
theorem bq_ishr (G : bq_Cx cc own nL z Rm nm A) {x y : Int32} (hd : decode cc pc = .ok (.ishr, 1)) (hp : pc + 1 = q) (k : A cells slots q ls (.int (x >>> (y &&& 31)) :: st) n R I L) : A cells slots pc ls (.int y :: .int x :: st) n R I L := by
  obtain ⟨p, l, e, s, m, args, below, meth, c, D, Q, hx, hb, hml, hown, hts, hK, hz, hnm, rfl⟩ := G
  subst hp
  intro H locs arr hR hS hl
  exact lv_ishr hx hb hd (k H locs arr hR hS hl)
theorem bq_iushr (G : bq_Cx cc own nL z Rm nm A) {x y : Int32} (hd : decode cc pc = .ok (.iushr, 1)) (hp : pc + 1 = q) (k : A cells slots q ls (.int ((x.toUInt32 >>> (y.toUInt32 &&& Int32.toUInt32 31)).toInt32) :: st) n R I L) : A cells slots pc ls (.int y :: .int x :: st) n R I L := by
  obtain ⟨p, l, e, s, m, args, below, meth, c, D, Q, hx, hb, hml, hown, hts, hK, hz, hnm, rfl⟩ := G
  subst hp
  intro H locs arr hR hS hl
  exact lv_iushr hx hb hd rfl (k H locs arr hR hS hl)
theorem bq_idiv (G : bq_Cx cc own nL z Rm nm A) {x y : Int32} (hne : ¬ y = 0) (hd : decode cc pc = .ok (.idiv, 1)) (hp : pc + 1 = q) (k : A cells slots q ls (.int (x / y) :: st) n R I L) : A cells slots pc ls (.int y :: .int x :: st) n R I L := by
  obtain ⟨p, l, e, s, m, args, below, meth, c, D, Q, hx, hb, hml, hown, hts, hK, hz, hnm, rfl⟩ := G
  subst hp
  intro H locs arr hR hS hl
  exact lv_idiv hx hb hd hne (k H locs arr hR hS hl)
theorem bq_irem (G : bq_Cx cc own nL z Rm nm A) {x y : Int32} (hne : ¬ y = 0) (hd : decode cc pc = .ok (.irem, 1)) (hp : pc + 1 = q) (k : A cells slots q ls (.int (x - x / y * y) :: st) n R I L) : A cells slots pc ls (.int y :: .int x :: st) n R I L := by
  obtain ⟨p, l, e, s, m, args, below, meth, c, D, Q, hx, hb, hml, hown, hts, hK, hz, hnm, rfl⟩ := G
  subst hp
  intro H locs arr hR hS hl
  exact lv_irem hx hb hd hne (k H locs arr hR hS hl)
theorem bq_ldiv (G : bq_Cx cc own nL z Rm nm A) {x y : Int64} (hne : ¬ y = 0) (hd : decode cc pc = .ok (.ldiv, 1)) (hp : pc + 1 = q) (k : A cells slots q ls (.long (x / y) :: st) n R I L) : A cells slots pc ls (.long y :: .long x :: st) n R I L := by
  obtain ⟨p, l, e, s, m, args, below, meth, c, D, Q, hx, hb, hml, hown, hts, hK, hz, hnm, rfl⟩ := G
  subst hp
  intro H locs arr hR hS hl
  exact lv_ldiv hx hb hd hne (k H locs arr hR hS hl)
theorem bq_lrem (G : bq_Cx cc own nL z Rm nm A) {x y : Int64} (hne : ¬ y = 0) (hd : decode cc pc = .ok (.lrem, 1)) (hp : pc + 1 = q) (k : A cells slots q ls (.long (x - x / y * y) :: st) n R I L) : A cells slots pc ls (.long y :: .long x :: st) n R I L := by
  obtain ⟨p, l, e, s, m, args, below, meth, c, D, Q, hx, hb, hml, hown, hts, hK, hz, hnm, rfl⟩ := G
  subst hp
  intro H locs arr hR hS hl
  exact lv_lrem hx hb hd hne (k H locs arr hR hS hl)
theorem bq_ladd (G : bq_Cx cc own nL z Rm nm A) {x y : Int64} (hd : decode cc pc = .ok (.ladd, 1)) (hp : pc + 1 = q) (k : A cells slots q ls (.long (x + y) :: st) n R I L) : A cells slots pc ls (.long y :: .long x :: st) n R I L := by
  obtain ⟨p, l, e, s, m, args, below, meth, c, D, Q, hx, hb, hml, hown, hts, hK, hz, hnm, rfl⟩ := G
  subst hp
  intro H locs arr hR hS hl
  exact lv_ladd hx hb hd (k H locs arr hR hS hl)
theorem bq_lsub (G : bq_Cx cc own nL z Rm nm A) {x y : Int64} (hd : decode cc pc = .ok (.lsub, 1)) (hp : pc + 1 = q) (k : A cells slots q ls (.long (x - y) :: st) n R I L) : A cells slots pc ls (.long y :: .long x :: st) n R I L := by
  obtain ⟨p, l, e, s, m, args, below, meth, c, D, Q, hx, hb, hml, hown, hts, hK, hz, hnm, rfl⟩ := G
  subst hp
  intro H locs arr hR hS hl
  exact lv_lsub hx hb hd (k H locs arr hR hS hl)
theorem bq_lmul (G : bq_Cx cc own nL z Rm nm A) {x y : Int64} (hd : decode cc pc = .ok (.lmul, 1)) (hp : pc + 1 = q) (k : A cells slots q ls (.long (x * y) :: st) n R I L) : A cells slots pc ls (.long y :: .long x :: st) n R I L := by
  obtain ⟨p, l, e, s, m, args, below, meth, c, D, Q, hx, hb, hml, hown, hts, hK, hz, hnm, rfl⟩ := G
  subst hp
  intro H locs arr hR hS hl
  exact lv_lmul hx hb hd (k H locs arr hR hS hl)
theorem bq_lcmp (G : bq_Cx cc own nL z Rm nm A) {x y : Int64} (hd : decode cc pc = .ok (.lcmp, 1)) (hp : pc + 1 = q) (k : A cells slots q ls (.int (lg_cmp x y) :: st) n R I L) : A cells slots pc ls (.long y :: .long x :: st) n R I L := by
  obtain ⟨p, l, e, s, m, args, below, meth, c, D, Q, hx, hb, hml, hown, hts, hK, hz, hnm, rfl⟩ := G
  subst hp
  intro H locs arr hR hS hl
  exact W.lcmp hx hb hd (k H locs arr hR hS hl)
theorem bq_ineg (G : bq_Cx cc own nL z Rm nm A) {x : Int32} (hd : decode cc pc = .ok (.ineg, 1)) (hp : pc + 1 = q) (k : A cells slots q ls (.int (-x) :: st) n R I L) : A cells slots pc ls (.int x :: st) n R I L := by
  obtain ⟨p, l, e, s, m, args, below, meth, c, D, Q, hx, hb, hml, hown, hts, hK, hz, hnm, rfl⟩ := G
  subst hp
  intro H locs arr hR hS hl
  exact lv_ineg hx hb hd (k H locs arr hR hS hl)
theorem bq_lneg (G : bq_Cx cc own nL z Rm nm A) {x : Int64} (hd : decode cc pc = .ok (.lneg, 1)) (hp : pc + 1 = q) (k : A cells slots q ls (.long (-x) :: st) n R I L) : A cells slots pc ls (.long x :: st) n R I L := by
  obtain ⟨p, l, e, s, m, args, below, meth, c, D, Q, hx, hb, hml, hown, hts, hK, hz, hnm, rfl⟩ := G
  subst hp
  intro H locs arr hR hS hl
  exact lv_lneg hx hb hd (k H locs arr hR hS hl)
theorem bq_i2l (G : bq_Cx cc own nL z Rm nm A) {x : Int32} (hd : decode cc pc = .ok (.i2l, 1)) (hp : pc + 1 = q) (k : A cells slots q ls (.long x.toInt64 :: st) n R I L) : A cells slots pc ls (.int x :: st) n R I L := by
  obtain ⟨p, l, e, s, m, args, below, meth, c, D, Q, hx, hb, hml, hown, hts, hK, hz, hnm, rfl⟩ := G
  subst hp
  intro H locs arr hR hS hl
  exact lv_i2l hx hb hd rfl (k H locs arr hR hS hl)
theorem bq_l2i (G : bq_Cx cc own nL z Rm nm A) {x : Int64} (hd : decode cc pc = .ok (.l2i, 1)) (hp : pc + 1 = q) (k : A cells slots q ls (.int x.toInt32 :: st) n R I L) : A cells slots pc ls (.long x :: st) n R I L := by
  obtain ⟨p, l, e, s, m, args, below, meth, c, D, Q, hx, hb, hml, hown, hts, hK, hz, hnm, rfl⟩ := G
  subst hp
  intro H locs arr hR hS hl
  exact lv_l2i hx hb hd rfl (k H locs arr hR hS hl)
theorem bq_i2c (G : bq_Cx cc own nL z Rm nm A) {x : Int32} (hd : decode cc pc = .ok (.i2c, 1)) (hp : pc + 1 = q) (k : A cells slots q ls (.int (x.toUInt32 % 65536).toInt32 :: st) n R I L) : A cells slots pc ls (.int x :: st) n R I L := by
  obtain ⟨p, l, e, s, m, args, below, meth, c, D, Q, hx, hb, hml, hown, hts, hK, hz, hnm, rfl⟩ := G
  subst hp
  intro H locs arr hR hS hl
  exact lv_i2c hx hb hd rfl (k H locs arr hR hS hl)
theorem bq_iconst (G : bq_Cx cc own nL z Rm nm A) {c : Int} {v : Int32} (hv : Int32.ofInt c = v) (hd : decode cc pc = .ok (.iconst c, 1)) (hp : pc + 1 = q) (k : A cells slots q ls (.int v :: st) n R I L) : A cells slots pc ls (st) n R I L := by
  obtain ⟨p, l, e, s, m, args, below, meth, c, D, Q, hx, hb, hml, hown, hts, hK, hz, hnm, rfl⟩ := G
  subst hp
  intro H locs arr hR hS hl
  exact lv_iconst hx hb hd hv (k H locs arr hR hS hl)
theorem bq_lconst (G : bq_Cx cc own nL z Rm nm A) {c : Fin 2} {v : Int64} (hv : Int64.ofNat (c : Nat) = v) (hd : decode cc pc = .ok (.lconst c, 1)) (hp : pc + 1 = q) (k : A cells slots q ls (.long v :: st) n R I L) : A cells slots pc ls (st) n R I L := by
  obtain ⟨p, l, e, s, m, args, below, meth, c, D, Q, hx, hb, hml, hown, hts, hK, hz, hnm, rfl⟩ := G
  subst hp
  intro H locs arr hR hS hl
  exact lv_lconst hx hb hd hv (k H locs arr hR hS hl)
theorem bq_bipush (G : bq_Cx cc own nL z Rm nm A) {c : Int} {v : Int32} (hv : (Int8.ofInt c).toInt32 = v) (hd : decode cc pc = .ok (.bipush c, 2)) (hp : pc + 2 = q) (k : A cells slots q ls (.int v :: st) n R I L) : A cells slots pc ls (st) n R I L := by
  obtain ⟨p, l, e, s, m, args, below, meth, c, D, Q, hx, hb, hml, hown, hts, hK, hz, hnm, rfl⟩ := G
  subst hp
  intro H locs arr hR hS hl
  exact lv_bipush hx hb hd hv (k H locs arr hR hS hl)
theorem bq_sipush (G : bq_Cx cc own nL z Rm nm A) {c : Int} {v : Int32} (hv : (Int16.ofInt c).toInt32 = v) (hd : decode cc pc = .ok (.sipush c, 3)) (hp : pc + 3 = q) (k : A cells slots q ls (.int v :: st) n R I L) : A cells slots pc ls (st) n R I L := by
  obtain ⟨p, l, e, s, m, args, below, meth, c, D, Q, hx, hb, hml, hown, hts, hK, hz, hnm, rfl⟩ := G
  subst hp
  intro H locs arr hR hS hl
  exact lv_sipush hx hb hd hv (k H locs arr hR hS hl)
theorem bq_ldc (G : bq_Cx cc own nL z Rm nm A) {i : Nat} {v : Int32} (hw : Cond.constant own i v ∈ bq_tbl) (hd : decode cc pc = .ok (.ldc i, 2)) (hp : pc + 2 = q) (k : A cells slots q ls (.int v :: st) n R I L) : A cells slots pc ls (st) n R I L := by
  obtain ⟨p, l, e, s, m, args, below, meth, c, D, Q, hx, hb, hml, hown, hts, hK, hz, hnm, rfl⟩ := G
  subst hp
  intro H locs arr hR hS hl
  exact lv_ldc hx hb hown (hts _ hw) hd (k H locs arr hR hS hl)
theorem bq_ldcw (G : bq_Cx cc own nL z Rm nm A) {i : Nat} {v : Int32} (hw : Cond.constant own i v ∈ bq_tbl) (hd : decode cc pc = .ok (.ldc_w i, 3)) (hp : pc + 3 = q) (k : A cells slots q ls (.int v :: st) n R I L) : A cells slots pc ls (st) n R I L := by
  obtain ⟨p, l, e, s, m, args, below, meth, c, D, Q, hx, hb, hml, hown, hts, hK, hz, hnm, rfl⟩ := G
  subst hp
  intro H locs arr hR hS hl
  exact lv_ldcw hx hb hown (hts _ hw) hd (k H locs arr hR hS hl)
theorem bq_ldc2 (G : bq_Cx cc own nL z Rm nm A) {i : Nat} {v : Int64} (hw : Cond.constantLong own i v ∈ bq_tbl) (hd : decode cc pc = .ok (.ldc2_w i, 3)) (hp : pc + 3 = q) (k : A cells slots q ls (.long v :: st) n R I L) : A cells slots pc ls (st) n R I L := by
  obtain ⟨p, l, e, s, m, args, below, meth, c, D, Q, hx, hb, hml, hown, hts, hK, hz, hnm, rfl⟩ := G
  subst hp
  intro H locs arr hR hS hl
  exact lv_ldc2 hx hb hown (hts _ hw) hd (k H locs arr hR hS hl)
theorem bq_dup (G : bq_Cx cc own nL z Rm nm A) {v : Value} (hv : v.category = 1) (hd : decode cc pc = .ok (.dup, 1)) (hp : pc + 1 = q) (k : A cells slots q ls (v :: v :: st) n R I L) : A cells slots pc ls (v :: st) n R I L := by
  obtain ⟨p, l, e, s, m, args, below, meth, c, D, Q, hx, hb, hml, hown, hts, hK, hz, hnm, rfl⟩ := G
  subst hp
  intro H locs arr hR hS hl
  exact lv_dup hx hb hd hv (k H locs arr hR hS hl)
theorem bq_pop (G : bq_Cx cc own nL z Rm nm A) {v : Value} (hv : v.category = 1) (hd : decode cc pc = .ok (.pop, 1)) (hp : pc + 1 = q) (k : A cells slots q ls (st) n R I L) : A cells slots pc ls (v :: st) n R I L := by
  obtain ⟨p, l, e, s, m, args, below, meth, c, D, Q, hx, hb, hml, hown, hts, hK, hz, hnm, rfl⟩ := G
  subst hp
  intro H locs arr hR hS hl
  exact lv_pop hx hb hd hv (k H locs arr hR hS hl)
theorem bq_dup2 (G : bq_Cx cc own nL z Rm nm A) {v w : Value} (hv : v.category = 1) (hw : w.category = 1) (hd : decode cc pc = .ok (.dup2, 1)) (hp : pc + 1 = q) (k : A cells slots q ls (v :: w :: v :: w :: st) n R I L) : A cells slots pc ls (v :: w :: st) n R I L := by
  obtain ⟨p, l, e, s, m, args, below, meth, c, D, Q, hx, hb, hml, hown, hts, hK, hz, hnm, rfl⟩ := G
  subst hp
  intro H locs arr hR hS hl
  exact lv_dup2_11 hx hb hd hv hw (k H locs arr hR hS hl)
theorem bq_iload_n (G : bq_Cx cc own nL z Rm nm A) {k0 : Fin 4} {x : Int32} (hl0 : bq_at ls (k0 : Nat) = some (.int x)) (hd : decode cc pc = .ok (.iload_n k0, 1)) (hp : pc + 1 = q) (k : A cells slots q ls (.int x :: st) n R I L) : A cells slots pc ls (st) n R I L := by
  obtain ⟨p, l, e, s, m, args, below, meth, c, D, Q, hx, hb, hml, hown, hts, hK, hz, hnm, rfl⟩ := G
  subst hp
  intro H locs arr hR hS hl
  exact lv_iload_n hx hb hd rfl (hl.at hl0) (k H locs arr hR hS hl)
theorem bq_iload (G : bq_Cx cc own nL z Rm nm A) {k0 : Nat} {x : Int32} (hl0 : bq_at ls k0 = some (.int x)) (hd : decode cc pc = .ok (.iload k0, 2)) (hp : pc + 2 = q) (k : A cells slots q ls (.int x :: st) n R I L) : A cells slots pc ls (st) n R I L := by
  obtain ⟨p, l, e, s, m, args, below, meth, c, D, Q, hx, hb, hml, hown, hts, hK, hz, hnm, rfl⟩ := G
  subst hp
  intro H locs arr hR hS hl
  exact lv_iload hx hb hd (hl.at hl0) (k H locs arr hR hS hl)
theorem bq_lload_n (G : bq_Cx cc own nL z Rm nm A) {k0 : Fin 4} {x : Int64} (hl0 : bq_at ls (k0 : Nat) = some (.long x)) (hd : decode cc pc = .ok (.lload_n k0, 1)) (hp : pc + 1 = q) (k : A cells slots q ls (.long x :: st) n R I L) : A cells slots pc ls (st) n R I L := by
  obtain ⟨p, l, e, s, m, args, below, meth, c, D, Q, hx, hb, hml, hown, hts, hK, hz, hnm, rfl⟩ := G
  subst hp
  intro H locs arr hR hS hl
  exact lv_lload_n hx hb hd rfl (hl.at hl0) (k H locs arr hR hS hl)
theorem bq_lload (G : bq_Cx cc own nL z Rm nm A) {k0 : Nat} {x : Int64} (hl0 : bq_at ls k0 = some (.long x)) (hd : decode cc pc = .ok (.lload k0, 2)) (hp : pc + 2 = q) (k : A cells slots q ls (.long x :: st) n R I L) : A cells slots pc ls (st) n R I L := by
  obtain ⟨p, l, e, s, m, args, below, meth, c, D, Q, hx, hb, hml, hown, hts, hK, hz, hnm, rfl⟩ := G
  subst hp
  intro H locs arr hR hS hl
  exact lv_lload hx hb hd (hl.at hl0) (k H locs arr hR hS hl)
theorem bq_aload_n (G : bq_Cx cc own nL z Rm nm A) {k0 : Fin 4} {x : Nat} (hl0 : bq_at ls (k0 : Nat) = some (.ref x)) (hd : decode cc pc = .ok (.aload_n k0, 1)) (hp : pc + 1 = q) (k : A cells slots q ls (.ref x :: st) n R I L) : A cells slots pc ls (st) n R I L := by
  obtain ⟨p, l, e, s, m, args, below, meth, c, D, Q, hx, hb, hml, hown, hts, hK, hz, hnm, rfl⟩ := G
  subst hp
  intro H locs arr hR hS hl
  exact lv_aload_n hx hb hd rfl (hl.at hl0) (k H locs arr hR hS hl)
theorem bq_aload (G : bq_Cx cc own nL z Rm nm A) {k0 : Nat} {x : Nat} (hl0 : bq_at ls k0 = some (.ref x)) (hd : decode cc pc = .ok (.aload k0, 2)) (hp : pc + 2 = q) (k : A cells slots q ls (.ref x :: st) n R I L) : A cells slots pc ls (st) n R I L := by
  obtain ⟨p, l, e, s, m, args, below, meth, c, D, Q, hx, hb, hml, hown, hts, hK, hz, hnm, rfl⟩ := G
  subst hp
  intro H locs arr hR hS hl
  exact lv_aload hx hb hd (hl.at hl0) (k H locs arr hR hS hl)
theorem bq_goto (G : bq_Cx cc own nL z Rm nm A) {off : Int} (hd : decode cc pc = .ok (.goto off, 3)) (hp : (pc : Int) + off = (q : Int)) (k : A cells slots q ls st n R I L) : A cells slots pc ls st n R I L := by
  obtain ⟨p, l, e, s, m, args, below, meth, c, D, Q, hx, hb, hml, hown, hts, hK, hz, hnm, rfl⟩ := G
  intro H locs arr hR hS hl
  exact lv_goto hx hb hd hp (k H locs arr hR hS hl)
theorem bq_top {v w : Value} (e : v = w) (k : A cells slots pc ls (w :: st) n R I L) : A cells slots pc ls (v :: st) n R I L := e ▸ k
theorem bq_I {I' : bq_IR} (e : I = I') (k : A cells slots pc ls st n R I' L) : A cells slots pc ls st n R I L := e ▸ k
theorem bq_L {L' : bq_LR} (e : L = L') (k : A cells slots pc ls st n R I L') : A cells slots pc ls st n R I L := e ▸ k
theorem bq_ls {ls' : bq_LS} (e : ls = ls') (k : A cells slots pc ls' st n R I L) : A cells slots pc ls st n R I L := e ▸ k
theorem bq_IL {I' : bq_IR} {L' : bq_LR} (e : I = I') (e2 : L = L') (k : A cells slots pc ls st n R I' L') : A cells slots pc ls st n R I L := e ▸ e2 ▸ k
theorem bq_name {v : Int32} (k : ∀ x : Int32, x = v → A cells slots pc ls (.int x :: st) n R I L) : A cells slots pc ls (.int v :: st) n R I L := k v rfl
theorem bq_nameL {v : Int64} (k : ∀ x : Int64, x = v → A cells slots pc ls (.long x :: st) n R I L) : A cells slots pc ls (.long v :: st) n R I L := k v rfl
theorem bq_nameI {P : bq_IR → Prop} (hI : P I) (k : ∀ J : bq_IR, P J → A cells slots pc ls st n R J L) : A cells slots pc ls st n R I L := k I hI
def bq_le : bq_LS → bq_LS → Prop
  | [], _ => True
  | none :: l', [] => bq_le l' []
  | some _ :: _, [] => False
  | none :: l', _ :: l => bq_le l' l
  | some v :: l', a :: l => a = some v ∧ bq_le l' l
theorem bq_le_at : ∀ (l' l : bq_LS), bq_le l' l → ∀ (k : Nat) (v : Value), bq_at l' k = some v → bq_at l k = some v
  | [], _, _, k, v, h => by simp [bq_at] at h
  | none :: l', [], hle, 0, v, h => by simp [bq_at] at h
  | none :: l', [], hle, k + 1, v, h => by
    have h1 := bq_le_at l' [] hle k v h
    simp [bq_at] at h1
  | some _ :: _, [], hle, k, v, h => hle.elim
  | none :: l', a :: l, hle, 0, v, h => by simp [bq_at] at h
  | none :: l', a :: l, hle, k + 1, v, h => bq_le_at l' l hle k v h
  | some w :: l', a :: l, hle, 0, v, h => hle.1.trans h
  | some w :: l', a :: l, hle, k + 1, v, h => bq_le_at l' l hle.2 k v h
theorem bq_forget (G : bq_Cx cc own nL z Rm nm A) {ls' : bq_LS} (h : bq_le ls' ls) (k : A cells slots pc ls' st n R I L) : A cells slots pc ls st n R I L := by
  obtain ⟨p, l, e, s, m, args, below, meth, c, D, Q, hx, hb, hml, hown, hts, hK, hz, hnm, rfl⟩ := G
  intro H locs arr hR hS hl
  exact k H locs arr hR hS (hl.le (bq_le_at _ _ h))
theorem bq_if_eq (G : bq_Cx cc own nL z Rm nm A) {x : Int32} {off : Int} {t : Nat} (hd : decode cc pc = .ok (.ifCond .eq off, 3)) (ht : (pc : Int) + off = (t : Int)) (hp : pc + 3 = q) (kt : x = 0 → A cells slots t ls st n R I L) (kf : ¬ x = 0 → A cells slots q ls st n R I L) : A cells slots pc ls (.int x :: st) n R I L := by
  obtain ⟨p, l, e, s, m, args, below, meth, c, D, Q, hx, hb, hml, hown, hts, hK, hz, hnm, rfl⟩ := G
  subst hp
  intro H locs arr hR hS hl
  exact lv_if_eq hx hb hd ht (fun h => kt h H locs arr hR hS hl) (fun h => kf h H locs arr hR hS hl)
theorem bq_if_eq_t (G : bq_Cx cc own nL z Rm nm A) {x : Int32} {off : Int} {t : Nat} (hd : decode cc pc = .ok (.ifCond .eq off, 3)) (ht : (pc : Int) + off = (t : Int)) (h : x = 0) (k : A cells slots t ls st n R I L) : A cells slots pc ls (.int x :: st) n R I L := bq_if_eq G hd ht rfl (fun _ => k) (fun h' => absurd h h')
theorem bq_if_eq_f (G : bq_Cx cc own nL z Rm nm A) {x : Int32} {off : Int} (hd : decode cc pc = .ok (.ifCond .eq off, 3)) (hp : pc + 3 = q) {t : Nat} (ht : (pc : Int) + off = (t : Int)) (h : ¬ x = 0) (k : A cells slots q ls st n R I L) : A cells slots pc ls (.int x :: st) n R I L := bq_if_eq G hd ht hp (fun h' => absurd h' h) (fun _ => k)
theorem bq_icmp_eq (G : bq_Cx cc own nL z Rm nm A) {x y : Int32} {off : Int} {t : Nat} (hd : decode cc pc = .ok (.if_icmp .eq off, 3)) (ht : (pc : Int) + off = (t : Int)) (hp : pc + 3 = q) (kt : x = y → A cells slots t ls st n R I L) (kf : ¬ x = y → A cells slots q ls st n R I L) : A cells slots pc ls (.int y :: .int x :: st) n R I L := by
  obtain ⟨p, l, e, s, m, args, below, meth, c, D, Q, hx, hb, hml, hown, hts, hK, hz, hnm, rfl⟩ := G
  subst hp
  intro H locs arr hR hS hl
  exact lv_icmp_eq hx hb hd ht (fun h => kt h H locs arr hR hS hl) (fun h => kf h H locs arr hR hS hl)
theorem bq_icmp_eq_t (G : bq_Cx cc own nL z Rm nm A) {x y : Int32} {off : Int} {t : Nat} (hd : decode cc pc = .ok (.if_icmp .eq off, 3)) (ht : (pc : Int) + off = (t : Int)) (h : x = y) (k : A cells slots t ls st n R I L) : A cells slots pc ls (.int y :: .int x :: st) n R I L := bq_icmp_eq G hd ht rfl (fun _ => k) (fun h' => absurd h h')
theorem bq_icmp_eq_f (G : bq_Cx cc own nL z Rm nm A) {x y : Int32} {off : Int} (hd : decode cc pc = .ok (.if_icmp .eq off, 3)) (hp : pc + 3 = q) {t : Nat} (ht : (pc : Int) + off = (t : Int)) (h : ¬ x = y) (k : A cells slots q ls st n R I L) : A cells slots pc ls (.int y :: .int x :: st) n R I L := bq_icmp_eq G hd ht hp (fun h' => absurd h' h) (fun _ => k)
theorem bq_if_ne (G : bq_Cx cc own nL z Rm nm A) {x : Int32} {off : Int} {t : Nat} (hd : decode cc pc = .ok (.ifCond .ne off, 3)) (ht : (pc : Int) + off = (t : Int)) (hp : pc + 3 = q) (kt : ¬ x = 0 → A cells slots t ls st n R I L) (kf : x = 0 → A cells slots q ls st n R I L) : A cells slots pc ls (.int x :: st) n R I L := by
  obtain ⟨p, l, e, s, m, args, below, meth, c, D, Q, hx, hb, hml, hown, hts, hK, hz, hnm, rfl⟩ := G
  subst hp
  intro H locs arr hR hS hl
  exact lv_if_ne hx hb hd ht (fun h => kt h H locs arr hR hS hl) (fun h => kf h H locs arr hR hS hl)
theorem bq_if_ne_t (G : bq_Cx cc own nL z Rm nm A) {x : Int32} {off : Int} {t : Nat} (hd : decode cc pc = .ok (.ifCond .ne off, 3)) (ht : (pc : Int) + off = (t : Int)) (h : ¬ x = 0) (k : A cells slots t ls st n R I L) : A cells slots pc ls (.int x :: st) n R I L := bq_if_ne G hd ht rfl (fun _ => k) (fun h' => absurd h' h)
theorem bq_if_ne_f (G : bq_Cx cc own nL z Rm nm A) {x : Int32} {off : Int} (hd : decode cc pc = .ok (.ifCond .ne off, 3)) (hp : pc + 3 = q) {t : Nat} (ht : (pc : Int) + off = (t : Int)) (h : x = 0) (k : A cells slots q ls st n R I L) : A cells slots pc ls (.int x :: st) n R I L := bq_if_ne G hd ht hp (fun h' => absurd h h') (fun _ => k)
theorem bq_icmp_ne (G : bq_Cx cc own nL z Rm nm A) {x y : Int32} {off : Int} {t : Nat} (hd : decode cc pc = .ok (.if_icmp .ne off, 3)) (ht : (pc : Int) + off = (t : Int)) (hp : pc + 3 = q) (kt : ¬ x = y → A cells slots t ls st n R I L) (kf : x = y → A cells slots q ls st n R I L) : A cells slots pc ls (.int y :: .int x :: st) n R I L := by
  obtain ⟨p, l, e, s, m, args, below, meth, c, D, Q, hx, hb, hml, hown, hts, hK, hz, hnm, rfl⟩ := G
  subst hp
  intro H locs arr hR hS hl
  exact lv_icmp_ne hx hb hd ht (fun h => kt h H locs arr hR hS hl) (fun h => kf h H locs arr hR hS hl)
theorem bq_icmp_ne_t (G : bq_Cx cc own nL z Rm nm A) {x y : Int32} {off : Int} {t : Nat} (hd : decode cc pc = .ok (.if_icmp .ne off, 3)) (ht : (pc : Int) + off = (t : Int)) (h : ¬ x = y) (k : A cells slots t ls st n R I L) : A cells slots pc ls (.int y :: .int x :: st) n R I L := bq_icmp_ne G hd ht rfl (fun _ => k) (fun h' => absurd h' h)
theorem bq_icmp_ne_f (G : bq_Cx cc own nL z Rm nm A) {x y : Int32} {off : Int} (hd : decode cc pc = .ok (.if_icmp .ne off, 3)) (hp : pc + 3 = q) {t : Nat} (ht : (pc : Int) + off = (t : Int)) (h : x = y) (k : A cells slots q ls st n R I L) : A cells slots pc ls (.int y :: .int x :: st) n R I L := bq_icmp_ne G hd ht hp (fun h' => absurd h h') (fun _ => k)
theorem bq_if_lt (G : bq_Cx cc own nL z Rm nm A) {x : Int32} {off : Int} {t : Nat} (hd : decode cc pc = .ok (.ifCond .lt off, 3)) (ht : (pc : Int) + off = (t : Int)) (hp : pc + 3 = q) (kt : x < 0 → A cells slots t ls st n R I L) (kf : ¬ x < 0 → A cells slots q ls st n R I L) : A cells slots pc ls (.int x :: st) n R I L := by
  obtain ⟨p, l, e, s, m, args, below, meth, c, D, Q, hx, hb, hml, hown, hts, hK, hz, hnm, rfl⟩ := G
  subst hp
  intro H locs arr hR hS hl
  exact lv_if_lt hx hb hd ht (fun h => kt h H locs arr hR hS hl) (fun h => kf h H locs arr hR hS hl)
theorem bq_if_lt_t (G : bq_Cx cc own nL z Rm nm A) {x : Int32} {off : Int} {t : Nat} (hd : decode cc pc = .ok (.ifCond .lt off, 3)) (ht : (pc : Int) + off = (t : Int)) (h : x < 0) (k : A cells slots t ls st n R I L) : A cells slots pc ls (.int x :: st) n R I L := bq_if_lt G hd ht rfl (fun _ => k) (fun h' => absurd h h')
theorem bq_if_lt_f (G : bq_Cx cc own nL z Rm nm A) {x : Int32} {off : Int} (hd : decode cc pc = .ok (.ifCond .lt off, 3)) (hp : pc + 3 = q) {t : Nat} (ht : (pc : Int) + off = (t : Int)) (h : ¬ x < 0) (k : A cells slots q ls st n R I L) : A cells slots pc ls (.int x :: st) n R I L := bq_if_lt G hd ht hp (fun h' => absurd h' h) (fun _ => k)
theorem bq_icmp_lt (G : bq_Cx cc own nL z Rm nm A) {x y : Int32} {off : Int} {t : Nat} (hd : decode cc pc = .ok (.if_icmp .lt off, 3)) (ht : (pc : Int) + off = (t : Int)) (hp : pc + 3 = q) (kt : x < y → A cells slots t ls st n R I L) (kf : ¬ x < y → A cells slots q ls st n R I L) : A cells slots pc ls (.int y :: .int x :: st) n R I L := by
  obtain ⟨p, l, e, s, m, args, below, meth, c, D, Q, hx, hb, hml, hown, hts, hK, hz, hnm, rfl⟩ := G
  subst hp
  intro H locs arr hR hS hl
  exact lv_icmp_lt hx hb hd ht (fun h => kt h H locs arr hR hS hl) (fun h => kf h H locs arr hR hS hl)
theorem bq_icmp_lt_t (G : bq_Cx cc own nL z Rm nm A) {x y : Int32} {off : Int} {t : Nat} (hd : decode cc pc = .ok (.if_icmp .lt off, 3)) (ht : (pc : Int) + off = (t : Int)) (h : x < y) (k : A cells slots t ls st n R I L) : A cells slots pc ls (.int y :: .int x :: st) n R I L := bq_icmp_lt G hd ht rfl (fun _ => k) (fun h' => absurd h h')
theorem bq_icmp_lt_f (G : bq_Cx cc own nL z Rm nm A) {x y : Int32} {off : Int} (hd : decode cc pc = .ok (.if_icmp .lt off, 3)) (hp : pc + 3 = q) {t : Nat} (ht : (pc : Int) + off = (t : Int)) (h : ¬ x < y) (k : A cells slots q ls st n R I L) : A cells slots pc ls (.int y :: .int x :: st) n R I L := bq_icmp_lt G hd ht hp (fun h' => absurd h' h) (fun _ => k)
theorem bq_if_ge (G : bq_Cx cc own nL z Rm nm A) {x : Int32} {off : Int} {t : Nat} (hd : decode cc pc = .ok (.ifCond .ge off, 3)) (ht : (pc : Int) + off = (t : Int)) (hp : pc + 3 = q) (kt : 0 ≤ x → A cells slots t ls st n R I L) (kf : ¬ 0 ≤ x → A cells slots q ls st n R I L) : A cells slots pc ls (.int x :: st) n R I L := by
  obtain ⟨p, l, e, s, m, args, below, meth, c, D, Q, hx, hb, hml, hown, hts, hK, hz, hnm, rfl⟩ := G
  subst hp
  intro H locs arr hR hS hl
  exact lv_if_ge hx hb hd ht (fun h => kt h H locs arr hR hS hl) (fun h => kf h H locs arr hR hS hl)
theorem bq_if_ge_t (G : bq_Cx cc own nL z Rm nm A) {x : Int32} {off : Int} {t : Nat} (hd : decode cc pc = .ok (.ifCond .ge off, 3)) (ht : (pc : Int) + off = (t : Int)) (h : 0 ≤ x) (k : A cells slots t ls st n R I L) : A cells slots pc ls (.int x :: st) n R I L := bq_if_ge G hd ht rfl (fun _ => k) (fun h' => absurd h h')
theorem bq_if_ge_f (G : bq_Cx cc own nL z Rm nm A) {x : Int32} {off : Int} (hd : decode cc pc = .ok (.ifCond .ge off, 3)) (hp : pc + 3 = q) {t : Nat} (ht : (pc : Int) + off = (t : Int)) (h : ¬ 0 ≤ x) (k : A cells slots q ls st n R I L) : A cells slots pc ls (.int x :: st) n R I L := bq_if_ge G hd ht hp (fun h' => absurd h' h) (fun _ => k)
theorem bq_icmp_ge (G : bq_Cx cc own nL z Rm nm A) {x y : Int32} {off : Int} {t : Nat} (hd : decode cc pc = .ok (.if_icmp .ge off, 3)) (ht : (pc : Int) + off = (t : Int)) (hp : pc + 3 = q) (kt : y ≤ x → A cells slots t ls st n R I L) (kf : ¬ y ≤ x → A cells slots q ls st n R I L) : A cells slots pc ls (.int y :: .int x :: st) n R I L := by
  obtain ⟨p, l, e, s, m, args, below, meth, c, D, Q, hx, hb, hml, hown, hts, hK, hz, hnm, rfl⟩ := G
  subst hp
  intro H locs arr hR hS hl
  exact lv_icmp_ge hx hb hd ht (fun h => kt h H locs arr hR hS hl) (fun h => kf h H locs arr hR hS hl)
theorem bq_icmp_ge_t (G : bq_Cx cc own nL z Rm nm A) {x y : Int32} {off : Int} {t : Nat} (hd : decode cc pc = .ok (.if_icmp .ge off, 3)) (ht : (pc : Int) + off = (t : Int)) (h : y ≤ x) (k : A cells slots t ls st n R I L) : A cells slots pc ls (.int y :: .int x :: st) n R I L := bq_icmp_ge G hd ht rfl (fun _ => k) (fun h' => absurd h h')
theorem bq_icmp_ge_f (G : bq_Cx cc own nL z Rm nm A) {x y : Int32} {off : Int} (hd : decode cc pc = .ok (.if_icmp .ge off, 3)) (hp : pc + 3 = q) {t : Nat} (ht : (pc : Int) + off = (t : Int)) (h : ¬ y ≤ x) (k : A cells slots q ls st n R I L) : A cells slots pc ls (.int y :: .int x :: st) n R I L := bq_icmp_ge G hd ht hp (fun h' => absurd h' h) (fun _ => k)
theorem bq_if_gt (G : bq_Cx cc own nL z Rm nm A) {x : Int32} {off : Int} {t : Nat} (hd : decode cc pc = .ok (.ifCond .gt off, 3)) (ht : (pc : Int) + off = (t : Int)) (hp : pc + 3 = q) (kt : 0 < x → A cells slots t ls st n R I L) (kf : ¬ 0 < x → A cells slots q ls st n R I L) : A cells slots pc ls (.int x :: st) n R I L := by
  obtain ⟨p, l, e, s, m, args, below, meth, c, D, Q, hx, hb, hml, hown, hts, hK, hz, hnm, rfl⟩ := G
  subst hp
  intro H locs arr hR hS hl
  exact lv_if_gt hx hb hd ht (fun h => kt h H locs arr hR hS hl) (fun h => kf h H locs arr hR hS hl)
theorem bq_if_gt_t (G : bq_Cx cc own nL z Rm nm A) {x : Int32} {off : Int} {t : Nat} (hd : decode cc pc = .ok (.ifCond .gt off, 3)) (ht : (pc : Int) + off = (t : Int)) (h : 0 < x) (k : A cells slots t ls st n R I L) : A cells slots pc ls (.int x :: st) n R I L := bq_if_gt G hd ht rfl (fun _ => k) (fun h' => absurd h h')
theorem bq_if_gt_f (G : bq_Cx cc own nL z Rm nm A) {x : Int32} {off : Int} (hd : decode cc pc = .ok (.ifCond .gt off, 3)) (hp : pc + 3 = q) {t : Nat} (ht : (pc : Int) + off = (t : Int)) (h : ¬ 0 < x) (k : A cells slots q ls st n R I L) : A cells slots pc ls (.int x :: st) n R I L := bq_if_gt G hd ht hp (fun h' => absurd h' h) (fun _ => k)
theorem bq_icmp_gt (G : bq_Cx cc own nL z Rm nm A) {x y : Int32} {off : Int} {t : Nat} (hd : decode cc pc = .ok (.if_icmp .gt off, 3)) (ht : (pc : Int) + off = (t : Int)) (hp : pc + 3 = q) (kt : y < x → A cells slots t ls st n R I L) (kf : ¬ y < x → A cells slots q ls st n R I L) : A cells slots pc ls (.int y :: .int x :: st) n R I L := by
  obtain ⟨p, l, e, s, m, args, below, meth, c, D, Q, hx, hb, hml, hown, hts, hK, hz, hnm, rfl⟩ := G
  subst hp
  intro H locs arr hR hS hl
  exact lv_icmp_gt hx hb hd ht (fun h => kt h H locs arr hR hS hl) (fun h => kf h H locs arr hR hS hl)
theorem bq_icmp_gt_t (G : bq_Cx cc own nL z Rm nm A) {x y : Int32} {off : Int} {t : Nat} (hd : decode cc pc = .ok (.if_icmp .gt off, 3)) (ht : (pc : Int) + off = (t : Int)) (h : y < x) (k : A cells slots t ls st n R I L) : A cells slots pc ls (.int y :: .int x :: st) n R I L := bq_icmp_gt G hd ht rfl (fun _ => k) (fun h' => absurd h h')
theorem bq_icmp_gt_f (G : bq_Cx cc own nL z Rm nm A) {x y : Int32} {off : Int} (hd : decode cc pc = .ok (.if_icmp .gt off, 3)) (hp : pc + 3 = q) {t : Nat} (ht : (pc : Int) + off = (t : Int)) (h : ¬ y < x) (k : A cells slots q ls st n R I L) : A cells slots pc ls (.int y :: .int x :: st) n R I L := bq_icmp_gt G hd ht hp (fun h' => absurd h' h) (fun _ => k)
theorem bq_if_le (G : bq_Cx cc own nL z Rm nm A) {x : Int32} {off : Int} {t : Nat} (hd : decode cc pc = .ok (.ifCond .le off, 3)) (ht : (pc : Int) + off = (t : Int)) (hp : pc + 3 = q) (kt : x ≤ 0 → A cells slots t ls st n R I L) (kf : ¬ x ≤ 0 → A cells slots q ls st n R I L) : A cells slots pc ls (.int x :: st) n R I L := by
  obtain ⟨p, l, e, s, m, args, below, meth, c, D, Q, hx, hb, hml, hown, hts, hK, hz, hnm, rfl⟩ := G
  subst hp
  intro H locs arr hR hS hl
  exact lv_if_le hx hb hd ht (fun h => kt h H locs arr hR hS hl) (fun h => kf h H locs arr hR hS hl)
theorem bq_if_le_t (G : bq_Cx cc own nL z Rm nm A) {x : Int32} {off : Int} {t : Nat} (hd : decode cc pc = .ok (.ifCond .le off, 3)) (ht : (pc : Int) + off = (t : Int)) (h : x ≤ 0) (k : A cells slots t ls st n R I L) : A cells slots pc ls (.int x :: st) n R I L := bq_if_le G hd ht rfl (fun _ => k) (fun h' => absurd h h')
theorem bq_if_le_f (G : bq_Cx cc own nL z Rm nm A) {x : Int32} {off : Int} (hd : decode cc pc = .ok (.ifCond .le off, 3)) (hp : pc + 3 = q) {t : Nat} (ht : (pc : Int) + off = (t : Int)) (h : ¬ x ≤ 0) (k : A cells slots q ls st n R I L) : A cells slots pc ls (.int x :: st) n R I L := bq_if_le G hd ht hp (fun h' => absurd h' h) (fun _ => k)
theorem bq_icmp_le (G : bq_Cx cc own nL z Rm nm A) {x y : Int32} {off : Int} {t : Nat} (hd : decode cc pc = .ok (.if_icmp .le off, 3)) (ht : (pc : Int) + off = (t : Int)) (hp : pc + 3 = q) (kt : x ≤ y → A cells slots t ls st n R I L) (kf : ¬ x ≤ y → A cells slots q ls st n R I L) : A cells slots pc ls (.int y :: .int x :: st) n R I L := by
  obtain ⟨p, l, e, s, m, args, below, meth, c, D, Q, hx, hb, hml, hown, hts, hK, hz, hnm, rfl⟩ := G
  subst hp
  intro H locs arr hR hS hl
  exact lv_icmp_le hx hb hd ht (fun h => kt h H locs arr hR hS hl) (fun h => kf h H locs arr hR hS hl)
theorem bq_icmp_le_t (G : bq_Cx cc own nL z Rm nm A) {x y : Int32} {off : Int} {t : Nat} (hd : decode cc pc = .ok (.if_icmp .le off, 3)) (ht : (pc : Int) + off = (t : Int)) (h : x ≤ y) (k : A cells slots t ls st n R I L) : A cells slots pc ls (.int y :: .int x :: st) n R I L := bq_icmp_le G hd ht rfl (fun _ => k) (fun h' => absurd h h')
theorem bq_icmp_le_f (G : bq_Cx cc own nL z Rm nm A) {x y : Int32} {off : Int} (hd : decode cc pc = .ok (.if_icmp .le off, 3)) (hp : pc + 3 = q) {t : Nat} (ht : (pc : Int) + off = (t : Int)) (h : ¬ x ≤ y) (k : A cells slots q ls st n R I L) : A cells slots pc ls (.int y :: .int x :: st) n R I L := bq_icmp_le G hd ht hp (fun h' => absurd h' h) (fun _ => k)
theorem bq_istore_n (G : bq_Cx cc own nL z Rm nm A) {k0 : Fin 4} {x : Int32} {ls' : bq_LS} (hd : decode cc pc = .ok (.istore_n k0, 1)) (hp : pc + 1 = q) (hn : (k0 : Nat) + 0 < nL) (hnl : bq_nl ls (k0 : Nat) = true) (hls : bq_put ls (k0 : Nat) (some (.int x)) = ls') (k : A cells slots q ls' st n R I L) : A cells slots pc ls (.int x :: st) n R I L := by
  obtain ⟨p, l, e, s, m, args, below, meth, c, D, Q, hx, hb, hml, hown, hts, hK, hz, hnm, rfl⟩ := G
  subst hp
  subst hls
  intro H locs arr hR hS hl
  obtain ⟨arr', e', h'⟩ := bq_store1 (v := .int x) hl hn hnl rfl
  refine W.go (fun T hT tg hs => ?_) (k H locs arr' hR hS h')
  jvm_step hT [hT.top, hx, hb, hd, e']
  first | exact hs | exact ⟨_, e', hs⟩ | exact ⟨rfl, _, e', hs⟩
theorem bq_istore (G : bq_Cx cc own nL z Rm nm A) {k0 : Nat} {x : Int32} {ls' : bq_LS} (hd : decode cc pc = .ok (.istore k0, 2)) (hp : pc + 2 = q) (hn : k0 + 0 < nL) (hnl : bq_nl ls k0 = true) (hls : bq_put ls k0 (some (.int x)) = ls') (k : A cells slots q ls' st n R I L) : A cells slots pc ls (.int x :: st) n R I L := by
  obtain ⟨p, l, e, s, m, args, below, meth, c, D, Q, hx, hb, hml, hown, hts, hK, hz, hnm, rfl⟩ := G
  subst hp
  subst hls
  intro H locs arr hR hS hl
  obtain ⟨arr', e', h'⟩ := bq_store1 (v := .int x) hl hn hnl rfl
  refine W.go (fun T hT tg hs => ?_) (k H locs arr' hR hS h')
  jvm_step hT [hT.top, hx, hb, hd, e']
  first | exact hs | exact ⟨_, e', hs⟩ | exact ⟨rfl, _, e', hs⟩
theorem bq_astore_n (G : bq_Cx cc own nL z Rm nm A) {k0 : Fin 4} {x : Nat} {ls' : bq_LS} (hd : decode cc pc = .ok (.astore_n k0, 1)) (hp : pc + 1 = q) (hn : (k0 : Nat) + 0 < nL) (hnl : bq_nl ls (k0 : Nat) = true) (hls : bq_put ls (k0 : Nat) (some (.ref x)) = ls') (k : A cells slots q ls' st n R I L) : A cells slots pc ls (.ref x :: st) n R I L := by
  obtain ⟨p, l, e, s, m, args, below, meth, c, D, Q, hx, hb, hml, hown, hts, hK, hz, hnm, rfl⟩ := G
  subst hp
  subst hls
  intro H locs arr hR hS hl
  obtain ⟨arr', e', h'⟩ := bq_store1 (v := .ref x) hl hn hnl rfl
  refine W.go (fun T hT tg hs => ?_) (k H locs arr' hR hS h')
  jvm_step hT [hT.top, hx, hb, hd, e']
  first | exact hs | exact ⟨_, e', hs⟩ | exact ⟨rfl, _, e', hs⟩
theorem bq_astore (G : bq_Cx cc own nL z Rm nm A) {k0 : Nat} {x : Nat} {ls' : bq_LS} (hd : decode cc pc = .ok (.astore k0, 2)) (hp : pc + 2 = q) (hn : k0 + 0 < nL) (hnl : bq_nl ls k0 = true) (hls : bq_put ls k0 (some (.ref x)) = ls') (k : A cells slots q ls' st n R I L) : A cells slots pc ls (.ref x :: st) n R I L := by
  obtain ⟨p, l, e, s, m, args, below, meth, c, D, Q, hx, hb, hml, hown, hts, hK, hz, hnm, rfl⟩ := G
  subst hp
  subst hls
  intro H locs arr hR hS hl
  obtain ⟨arr', e', h'⟩ := bq_store1 (v := .ref x) hl hn hnl rfl
  refine W.go (fun T hT tg hs => ?_) (k H locs arr' hR hS h')
  jvm_step hT [hT.top, hx, hb, hd, e']
  first | exact hs | exact ⟨_, e', hs⟩ | exact ⟨rfl, _, e', hs⟩
theorem bq_lstore_n (G : bq_Cx cc own nL z Rm nm A) {k0 : Fin 4} {x : Int64} {ls' : bq_LS} (hd : decode cc pc = .ok (.lstore_n k0, 1)) (hp : pc + 1 = q) (hn : (k0 : Nat) + 1 < nL) (hnl : bq_nl ls (k0 : Nat) = true) (hls : bq_put (bq_put ls (k0 : Nat) (some (.long x))) ((k0 : Nat) + 1) none = ls') (k : A cells slots q ls' st n R I L) : A cells slots pc ls (.long x :: st) n R I L := by
  obtain ⟨p, l, e, s, m, args, below, meth, c, D, Q, hx, hb, hml, hown, hts, hK, hz, hnm, rfl⟩ := G
  subst hp
  subst hls
  intro H locs arr hR hS hl
  obtain ⟨arr', e', h'⟩ := bq_store2 (v := .long x) hl hn hnl rfl
  refine W.go (fun T hT tg hs => ?_) (k H locs arr' hR hS h')
  jvm_step hT [hT.top, hx, hb, hd, e']
  first | exact hs | exact ⟨_, e', hs⟩ | exact ⟨rfl, _, e', hs⟩
theorem bq_lstore (G : bq_Cx cc own nL z Rm nm A) {k0 : Nat} {x : Int64} {ls' : bq_LS} (hd : decode cc pc = .ok (.lstore k0, 2)) (hp : pc + 2 = q) (hn : k0 + 1 < nL) (hnl : bq_nl ls k0 = true) (hls : bq_put (bq_put ls k0 (some (.long x))) (k0 + 1) none = ls') (k : A cells slots q ls' st n R I L) : A cells slots pc ls (.long x :: st) n R I L := by
  obtain ⟨p, l, e, s, m, args, below, meth, c, D, Q, hx, hb, hml, hown, hts, hK, hz, hnm, rfl⟩ := G
  subst hp
  subst hls
  intro H locs arr hR hS hl
  obtain ⟨arr', e', h'⟩ := bq_store2 (v := .long x) hl hn hnl rfl
  refine W.go (fun T hT tg hs => ?_) (k H locs arr' hR hS h')
  jvm_step hT [hT.top, hx, hb, hd, e']
  first | exact hs | exact ⟨_, e', hs⟩ | exact ⟨rfl, _, e', hs⟩
theorem bq_iinc (G : bq_Cx cc own nL z Rm nm A) {k0 : Nat} {d : Int} {x v : Int32} {ls' : bq_LS} (hd : decode cc pc = .ok (.iinc k0 d, 3)) (hp : pc + 3 = q) (hl0 : bq_at ls k0 = some (.int x)) (hv : x + Int32.ofInt d = v) (hn : k0 < nL) (hnl : bq_nl ls k0 = true) (hls : bq_put ls k0 (some (.int v)) = ls') (k : A cells slots q ls' st n R I L) : A cells slots pc ls st n R I L := by
  obtain ⟨p, l, e, s, m, args, below, meth, c, D, Q, hx, hb, hml, hown, hts, hK, hz, hnm, rfl⟩ := G
  subst hp
  subst hls
  subst hv
  intro H locs arr hR hS hl
  obtain ⟨arr', e', h'⟩ := bq_store1 (v := .int (x + Int32.ofInt d)) hl hn hnl rfl
  have hg := hl.at hl0
  refine W.go (fun T hT tg hs => ?_) (k H locs arr' hR hS h')
  jvm_step hT [hT.top, hx, hb, hd, hg, e']
  first | exact hs | exact ⟨_, e', hs⟩ | exact ⟨rfl, _, e', hs⟩
end BqRows
