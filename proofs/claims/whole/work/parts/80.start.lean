set_option maxHeartbeats 4000000 in
set_option maxRecDepth 100000 in
theorem whole_start {p : Program} {e : Env} {s : State} {m : MethodId} {below : List Frame} {meth : Method} {c : Code} (l : Launch) (hflags : l.flags = flags0) {b L : Nat} {xs : Nat → Int32} (hL : L ≤ 3072) (C0 : lw_At p s m meth c b L xs) : W p l e room_1 s m #[Value.ref b] below meth c s.heap [] 0 0 (lw_Z below #[Value.ref b] s) (entryFrame m ([Value.ref b] : List Value).toArray 4) := by
  obtain ⟨hx, hb, hr, hml, hown, hts, hX, hbl, hlocks, hgv⟩ := C0
  obtain ⟨D, hKK⟩ := lw_kk hts hgv
  have htb : ∀ w ∈ bq_tbl, w.before #[Value.ref b] s = true := fun w hw => hts w (List.mem_filter.mp hw).1
  have hl := lv_entry [Value.ref b] (n := 4) (Nat.le_of_ble_eq_true rfl)
  rw [lg_entry_eq]
  generalize (lg_sl [Value.ref b] ++ List.replicate (4 - (lg_sl [Value.ref b]).length) Slot.unset).toArray = arr at hl ⊢
  have hLV : bq_LV arr 4 [some (.ref b), none, none, none] := by
    refine ⟨hl.1, hl.2.1, fun k v hk => ?_⟩
    match k, hk with
    | 0, hk =>
      cases hk
      exact hl.2.2 (0, .ref b) List.mem_cons_self
    | 1, hk => cases hk
    | 2, hk => cases hk
    | 3, hk => cases hk
    | k + 4, hk => cases hk
  refine lw_body (z := s.heap.size) (b := b) (N := L) (xs := xs) ⟨p, l, e, s, m, #[Value.ref b], below, meth, c, D, lw_Z below #[Value.ref b] s, ⟨hX, hbl, hbl⟩, hx, hb, hml, hown, htb, hKK, Nat.le_refl _, rfl, rfl⟩ hL ?_ s.heap [] arr ⟨rfl, fun k q hq => by cases hq⟩ va_S.rf hLV
  intro ls I L0 H locs arr hR hS hl
  refine va_forget (fun q hq => hS.2.2 q hq) ?_
  refine W.widen (k := 600000) (n := 7302250) (Nat.le_of_ble_eq_true rfl) (Nat.le_of_ble_eq_true rfl) ?_
  exact lw_ret hx hb hr hlocks dL_law_941
