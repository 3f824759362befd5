set_option maxHeartbeats 4000000 in
set_option maxRecDepth 100000 in
theorem lw_kk {s : State} {b : Nat} (hts : ∀ w ∈ lw_tbl, w.before #[Value.ref b] s = true) (hgv : (Jvm.Cond.and given_1 narrow_1).before #[Value.ref b] s = true) : ∃ D, bq_KK s.heap.size D s s.heap := by
  have hs := flat_of_before _ hgv
  have hA : ∀ a : Nat, a < s.heap.size → ¬ (fun q => s.heap.size ≤ q) a := fun a ha => Nat.not_le.mpr ha
  have htb : ∀ w ∈ bq_tbl, w.before #[Value.ref b] s = true := fun w hw => hts w (List.mem_filter.mp hw).1
  obtain ⟨t0, ht0, Tt0⟩ := va_Tof (args := #[Value.ref b]) (s := s) (tm := (.static "BroomFlood$Cellar" "AT_FIRST" "[I")) (ty := .int) (N := 5) (f := bq_AF) (A := fun q => s.heap.size ≤ q) (by decide) (hs (.arrayOf (.static "BroomFlood$Cellar" "AT_FIRST" "[I") .int) (by decide +kernel)) (va_eqt (z := 5) (hs (.eq (.length (.static "BroomFlood$Cellar" "AT_FIRST" "[I")) (.int 5)) (by decide +kernel))) (fun j hj => by
    rcases (show j = 0 ∨ j = 1 ∨ j = 2 ∨ j = 3 ∨ j = 4 by omega) with rfl | rfl | rfl | rfl | rfl
    · exact va_eqt (z := 0) (hs (.eq (.elem (.static "BroomFlood$Cellar" "AT_FIRST" "[I") (.int 0)) (.int 0)) (by decide +kernel))
    · exact va_eqt (z := 4) (hs (.eq (.elem (.static "BroomFlood$Cellar" "AT_FIRST" "[I") (.int 1)) (.int 4)) (by decide +kernel))
    · exact va_eqt (z := 0) (hs (.eq (.elem (.static "BroomFlood$Cellar" "AT_FIRST" "[I") (.int 2)) (.int 0)) (by decide +kernel))
    · exact va_eqt (z := 10) (hs (.eq (.elem (.static "BroomFlood$Cellar" "AT_FIRST" "[I") (.int 3)) (.int 10)) (by decide +kernel))
    · exact va_eqt (z := 8) (hs (.eq (.elem (.static "BroomFlood$Cellar" "AT_FIRST" "[I") (.int 4)) (.int 8)) (by decide +kernel))) hA
  have Zt0 := va_Zof (A := fun q => s.heap.size ≤ q) (hts (.laysStatic "BroomFlood$Cellar" "AT_FIRST" "[I") (List.mem_append_right _ (List.mem_of_getElem? (i := 134) (by decide +kernel)))) (hts (.initialized "BroomFlood$Cellar") (List.mem_append_right _ (List.mem_of_getElem? (i := 4) (by decide +kernel)))) ht0 hA
  obtain ⟨t1, ht1, Tt1⟩ := va_Tof (args := #[Value.ref b]) (s := s) (tm := (.static "BroomFlood$Reader" "LEAST" "[I")) (ty := .int) (N := 8) (f := bq_LE) (A := fun q => s.heap.size ≤ q) (by decide) (hs (.arrayOf (.static "BroomFlood$Reader" "LEAST" "[I") .int) (by decide +kernel)) (va_eqt (z := 8) (hs (.eq (.length (.static "BroomFlood$Reader" "LEAST" "[I")) (.int 8)) (by decide +kernel))) (fun j hj => by
    rcases (show j = 0 ∨ j = 1 ∨ j = 2 ∨ j = 3 ∨ j = 4 ∨ j = 5 ∨ j = 6 ∨ j = 7 by omega) with rfl | rfl | rfl | rfl | rfl | rfl | rfl | rfl
    · exact va_eqt (z := 0) (hs (.eq (.elem (.static "BroomFlood$Reader" "LEAST" "[I") (.int 0)) (.int 0)) (by decide +kernel))
    · exact va_eqt (z := 1) (hs (.eq (.elem (.static "BroomFlood$Reader" "LEAST" "[I") (.int 1)) (.int 1)) (by decide +kernel))
    · exact va_eqt (z := 0) (hs (.eq (.elem (.static "BroomFlood$Reader" "LEAST" "[I") (.int 2)) (.int 0)) (by decide +kernel))
    · exact va_eqt (z := 0) (hs (.eq (.elem (.static "BroomFlood$Reader" "LEAST" "[I") (.int 3)) (.int 0)) (by decide +kernel))
    · exact va_eqt (z := 1) (hs (.eq (.elem (.static "BroomFlood$Reader" "LEAST" "[I") (.int 4)) (.int 1)) (by decide +kernel))
    · exact va_eqt (z := 1) (hs (.eq (.elem (.static "BroomFlood$Reader" "LEAST" "[I") (.int 5)) (.int 1)) (by decide +kernel))
    · exact va_eqt (z := 1) (hs (.eq (.elem (.static "BroomFlood$Reader" "LEAST" "[I") (.int 6)) (.int 1)) (by decide +kernel))
    · exact va_eqt (z := 1) (hs (.eq (.elem (.static "BroomFlood$Reader" "LEAST" "[I") (.int 7)) (.int 1)) (by decide +kernel))) hA
  have Zt1 := va_Zof (A := fun q => s.heap.size ≤ q) (hts (.laysStatic "BroomFlood$Reader" "LEAST" "[I") (List.mem_append_right _ (List.mem_of_getElem? (i := 398) (by decide +kernel)))) (hts (.initialized "BroomFlood$Reader") (List.mem_append_right _ (List.mem_of_getElem? (i := 3) (by decide +kernel)))) ht1 hA
  obtain ⟨t2, ht2, Tt2⟩ := va_Tof (args := #[Value.ref b]) (s := s) (tm := (.static "BroomFlood$Reader" "GREATEST" "[I")) (ty := .int) (N := 8) (f := bq_GR) (A := fun q => s.heap.size ≤ q) (by decide) (hs (.arrayOf (.static "BroomFlood$Reader" "GREATEST" "[I") .int) (by decide +kernel)) (va_eqt (z := 8) (hs (.eq (.length (.static "BroomFlood$Reader" "GREATEST" "[I")) (.int 8)) (by decide +kernel))) (fun j hj => by
    rcases (show j = 0 ∨ j = 1 ∨ j = 2 ∨ j = 3 ∨ j = 4 ∨ j = 5 ∨ j = 6 ∨ j = 7 by omega) with rfl | rfl | rfl | rfl | rfl | rfl | rfl | rfl
    · exact va_eqt (z := 99) (hs (.eq (.elem (.static "BroomFlood$Reader" "GREATEST" "[I") (.int 0)) (.int 99)) (by decide +kernel))
    · exact va_eqt (z := 20) (hs (.eq (.elem (.static "BroomFlood$Reader" "GREATEST" "[I") (.int 1)) (.int 20)) (by decide +kernel))
    · exact va_eqt (z := 20) (hs (.eq (.elem (.static "BroomFlood$Reader" "GREATEST" "[I") (.int 2)) (.int 20)) (by decide +kernel))
    · exact va_eqt (z := 99) (hs (.eq (.elem (.static "BroomFlood$Reader" "GREATEST" "[I") (.int 3)) (.int 99)) (by decide +kernel))
    · exact va_eqt (z := 8) (hs (.eq (.elem (.static "BroomFlood$Reader" "GREATEST" "[I") (.int 4)) (.int 8)) (by decide +kernel))
    · exact va_eqt (z := 64) (hs (.eq (.elem (.static "BroomFlood$Reader" "GREATEST" "[I") (.int 5)) (.int 64)) (by decide +kernel))
    · exact va_eqt (z := 40) (hs (.eq (.elem (.static "BroomFlood$Reader" "GREATEST" "[I") (.int 6)) (.int 40)) (by decide +kernel))
    · exact va_eqt (z := 40) (hs (.eq (.elem (.static "BroomFlood$Reader" "GREATEST" "[I") (.int 7)) (.int 40)) (by decide +kernel))) hA
  have Zt2 := va_Zof (A := fun q => s.heap.size ≤ q) (hts (.laysStatic "BroomFlood$Reader" "GREATEST" "[I") (List.mem_append_right _ (List.mem_of_getElem? (i := 400) (by decide +kernel)))) (hts (.initialized "BroomFlood$Reader") (List.mem_append_right _ (List.mem_of_getElem? (i := 3) (by decide +kernel)))) ht2 hA
  obtain ⟨aK, aV, hS, hSe⟩ := vk_Sof (args := #[Value.ref b]) (s := s) (N := 1) (tm := fun _ => (.string "BroomFlood$Reader" 36)) (len := [6]) (byt := bq_wad) (A := fun q => s.heap.size ≤ q) (fun i hi => by rw [show i = 0 by omega]; decide) (fun i hi => hs (.exactly (.string "BroomFlood$Reader" 36) "java/lang/String") (by decide +kernel)) (fun i hi => hs (.eq (.field (.string "BroomFlood$Reader" 36) "java/lang/String" "coder" "B") (.int 0)) (by decide +kernel)) (fun i hi => hs (.arrayOf (.field (.string "BroomFlood$Reader" 36) "java/lang/String" "value" "[B") .byte) (by decide +kernel)) (fun i hi => by
    rw [show i = 0 by omega]
    exact hs (.eq (.length (.field (.string "BroomFlood$Reader" 36) "java/lang/String" "value" "[B")) (.int 6)) (by decide +kernel)) (fun i hi j hj => by
    rw [show i = 0 by omega] at hj ⊢
    have hj : j < 6 := hj
    rcases (show j = 0 ∨ j = 1 ∨ j = 2 ∨ j = 3 ∨ j = 4 ∨ j = 5 by omega) with rfl | rfl | rfl | rfl | rfl | rfl
    · exact hs (.eq (.elem (.field (.string "BroomFlood$Reader" 36) "java/lang/String" "value" "[B") (.int 0)) (.int 119)) (by decide +kernel)
    · exact hs (.eq (.elem (.field (.string "BroomFlood$Reader" 36) "java/lang/String" "value" "[B") (.int 1)) (.int 97)) (by decide +kernel)
    · exact hs (.eq (.elem (.field (.string "BroomFlood$Reader" 36) "java/lang/String" "value" "[B") (.int 2)) (.int 100)) (by decide +kernel)
    · exact hs (.eq (.elem (.field (.string "BroomFlood$Reader" 36) "java/lang/String" "value" "[B") (.int 3)) (.int 109)) (by decide +kernel)
    · exact hs (.eq (.elem (.field (.string "BroomFlood$Reader" 36) "java/lang/String" "value" "[B") (.int 4)) (.int 115)) (by decide +kernel)
    · exact hs (.eq (.elem (.field (.string "BroomFlood$Reader" 36) "java/lang/String" "value" "[B") (.int 5)) (.int 98)) (by decide +kernel)) (fun i j hi hj hij => by omega) hA
  have hS0 : vk_S 1 [6] bq_wad (fun _ => aK 0) (fun _ => aV 0) (fun q => s.heap.size ≤ q) s s.heap := ⟨fun i hi => by rw [show i = 0 by omega]; exact hS.1 0 (by decide), fun i j hi hj _ => by omega⟩
  have hR : vk_R RX7 36 "wadmsb" (aK 0) s := vk_R.of (hts (.stringRef "BroomFlood$Reader" 36 "wadmsb") (List.mem_append_right _ (List.mem_of_getElem? (i := 297) (by decide +kernel)))) (hSe 0 (by decide))
  have hZ := va_Zof (A := fun q => s.heap.size ≤ q) (hts (.laysStatic "java/lang/String" "COMPACT_STRINGS" "Z") (List.mem_append_right _ (List.mem_of_getElem? (i := 311) (by decide +kernel)))) (hts (.initialized "java/lang/String") (List.mem_append_right _ (List.mem_of_getElem? (i := 12) (by decide +kernel)))) (va_eqt (z := 1) (hs (.eq (.static "java/lang/String" "COMPACT_STRINGS" "Z") (.int 1)) (by decide +kernel))) hA
  have hcl : ∀ c : Nat, ∃ q : ClassId × (Nat → Nat), c < 10 → u_Kn s (bq_Rn c) (bq_Tn c) (bq_nf c) q.1 q.2 := by
    intro c
    by_cases hc : c < 10
    · have hi : (Cond.instantiable (bq_Rn c) (bq_nf c)).before #[Value.ref b] s = true := bq_cases (P := fun c => (Cond.instantiable (bq_Rn c) (bq_nf c)).before #[Value.ref b] s = true) (htb _ wa_X0) (htb _ wa_X1) (htb _ wa_X2) (htb _ wa_X3) (htb _ wa_X4) (htb _ wa_X5) (htb _ wa_X6) (htb _ wa_X7) (htb _ wa_X8) (htb _ wa_X9) hc
      obtain ⟨cC, iS, h⟩ := u_known htb (bq_in hc) hi
      exact ⟨(cC, iS), fun _ => h⟩
    · exact ⟨(Classical.choice ⟨(u_known htb (bq_in (ci := 0) (by decide)) (htb _ wa_X0)).choose⟩, fun _ => 0), fun h => absurd h hc⟩
  obtain ⟨dq, hdq⟩ := Classical.axiomOfChoice hcl
  obtain ⟨cI, kI, oI, nI1, nI2, nI3⟩ := Cond.arrayClass_spec (htb _ wy_int)
  obtain ⟨cJ, kJ, oJ, nJ1, nJ2, nJ3⟩ := Cond.arrayClass_spec (htb _ wy_long)
  obtain ⟨cZ, kZ, oZ, nZ1, nZ2, nZ3⟩ := Cond.arrayClass_spec (htb _ wy_boolean)
  have hAO := hts (.arrayOver (.object "BroomFlood$Moment")) (List.mem_append_right _ (List.mem_of_getElem? (i := 162) (by decide +kernel)))
  obtain ⟨comp, cA, kA, m1, m2, m3, m4, m5⟩ := Cond.arrayOver_spec hAO
  refine ⟨((fun c => (dq c).1, fun c => (dq c).2), (fun k => match k with | 0 => cI | 1 => cJ | 2 => cZ | _ => cA), (fun k => match k with | 0 => t0 | 1 => t1 | 2 => t2 | 3 => aK 0 | _ => aV 0)), ⟨?_, ?_⟩, ⟨va_Nw.of (A := #[Value.ref b]) rfl (hts (.methodLinkNest RX8 67 yX1_init RX8) (List.mem_append_right _ (List.mem_of_getElem? (i := 195) (by decide +kernel)))), va_Nw.of (A := #[Value.ref b]) rfl (hts (.methodLinkNest RX8 78 yX2_init RX8) (List.mem_append_right _ (List.mem_of_getElem? (i := 208) (by decide +kernel)))), va_Nw.of (A := #[Value.ref b]) rfl (hts (.methodLinkNest RX7 61 yX8_bitOf RX8) (List.mem_append_right _ (List.mem_of_getElem? (i := 386) (by decide +kernel)))), va_Nw.of (A := #[Value.ref b]) rfl (hts (.methodLinkNest RX5 43 yX8_bitOf RX8) (List.mem_append_right _ (List.mem_of_getElem? (i := 470) (by decide +kernel))))⟩, va_AO.of hAO, ⟨Zt0, Tt0⟩, ⟨Zt1, Tt1⟩, ⟨Zt2, Tt2⟩, hR, hS0, hZ⟩
  · intro c q hq
    have hc : c < 10 := by
      have := (List.getElem?_eq_some_iff.mp hq).1
      exact this
    rw [bq_cl hc] at hq
    cases hq
    exact hdq c hc
  · intro k q hq
    have hk : k < 4 := (List.getElem?_eq_some_iff.mp hq).1
    rcases (show k = 0 ∨ k = 1 ∨ k = 2 ∨ k = 3 by omega) with rfl | rfl | rfl | rfl
    · cases hq
      exact ⟨fun n z => ⟨fun k h => (by cases h), kI, nI2, oI, nI3⟩, nI1⟩
    · cases hq
      exact ⟨fun n z => ⟨fun k h => (by cases h), kJ, nJ2, oJ, nJ3⟩, nJ1⟩
    · cases hq
      exact ⟨fun n z => ⟨fun k h => (by cases h), kZ, nZ2, oZ, nZ3⟩, nZ1⟩
    · cases hq
      exact ⟨fun n z => ⟨fun k h => (by cases h), kA, m3, comp, m4⟩, kA, comp, m3, m4, m1, m5⟩
