theorem lw_ge {N i : Nat} (hN : N ≤ 3072) (hi : i ≤ 4000) : nI N - 6 < nI i ↔ N < i + 6 := by
  rw [Int32.lt_iff_toInt_lt, show (6 : Int32) = nI 6 from rfl, pk_sub_toInt (by omega) (by decide), nI_toInt (by omega)]
  omega
set_option maxHeartbeats 4000000 in
set_option maxRecDepth 100000 in
theorem lw_loop {z b N : Nat} {xs : Nat → Int32} {nm : String} {A : bq_A} (GS : bq_CxS b N xs cL_law RL 4 z room_1 nm A) (hN : N ≤ 3072) (fin : ∀ (ls : bq_LS) (I : bq_IR) (L : bq_LR), A 85 1785 941 ls [.int 1] 85 (bq_Rf z) I L) :
    ∀ (u i : Nat) (I : bq_IR) (L : bq_LR), i ≤ 4000 → N + 1 ≤ i + u → INV I L → A 85 1785 18 [some (.ref b), some (.ref (z + 0)), some (.ref (z + 75)), some (.int (nI i))] [] 85 (bq_Rf z) I L := by
  have G := GS.cx
  intro u
  induction u with
  | zero =>
    intro i I L hi hu hv
    refine bq_iload_n (q := 19) G rfl dL_law_18 rfl ?_
    refine bq_aload_n (q := 20) G rfl dL_law_19 rfl ?_
    refine bq_slen (q := 21) GS dL_law_20 rfl ?_
    refine bq_bipush (q := 23) (v := 6) G (by decide) dL_law_21 rfl ?_
    refine bq_isub (q := 24) G dL_law_23 rfl ?_
    refine bq_icmp_gt_t (t := 940) G dL_law_24 (by decide) ((lw_ge hN hi).mpr (by omega)) ?_
    refine bq_iconst (q := 941) (v := 1) G (by decide) dL_law_940 rfl ?_
    exact fin _ _ _
  | succ u ih =>
    intro i I L hi hu hv
    refine bq_iload_n (q := 19) G rfl dL_law_18 rfl ?_
    refine bq_aload_n (q := 20) G rfl dL_law_19 rfl ?_
    refine bq_slen (q := 21) GS dL_law_20 rfl ?_
    refine bq_bipush (q := 23) (v := 6) G (by decide) dL_law_21 rfl ?_
    refine bq_isub (q := 24) G dL_law_23 rfl ?_
    by_cases h6 : i + 6 ≤ N
    · refine bq_icmp_gt_f (q := 27) (t := 940) G dL_law_24 rfl (by decide) (fun h => absurd ((lw_ge hN hi).mp h) (by omega)) ?_
      refine bq_aload_n (q := 28) G rfl dL_law_27 rfl ?_
      refine bq_iload_n (q := 29) G rfl dL_law_28 rfl ?_
      refine bq_sld (q := 30) (k := i) GS dL_law_29 rfl rfl (by omega) (by omega) ?_
      refine bq_bipush (q := 32) (v := 31) G (by decide) dL_law_30 rfl ?_
      refine bq_iand (q := 33) G dL_law_32 rfl ?_
      have next : ∀ (J : bq_IR) (L' : bq_LR), INV J L' → A 85 1785 934 [some (.ref b), some (.ref (z + 0)), some (.ref (z + 75)), some (.int (nI i))] [] 85 (bq_Rf z) J L' := by
        intro J L' hJ
        refine bq_iinc (q := 937) (ls' := [_, _, _, _]) G dL_law_934 rfl rfl (show nI i + 6 = nI (i + 6) from nI_add i 6) (by decide) rfl rfl ?_
        refine bq_goto (q := 18) G dL_law_937 (by decide) ?_
        exact ih (i + 6) J L' (by omega) (by omega) hJ
      obtain ⟨j, hj, ej⟩ := pk_andE (xs i) (m := 31) 5 (by decide)
      have hj : j < 32 := hj
      rw [ej]
      rcases (show j = 0 ∨ j = 1 ∨ j = 2 ∨ j = 3 ∨ j = 4 ∨ j = 5 ∨ j = 6 ∨ j = 7 ∨ j = 8 ∨ j = 9 ∨ j = 10 ∨ j = 11 ∨ j = 12 ∨ j = 13 ∨ j = 14 ∨ j = 15 ∨ j = 16 ∨ j = 17 ∨ j = 18 ∨ j = 19 ∨ j = 20 ∨ j = 21 ∨ j = 22 ∨ j = 23 ∨ j = 24 ∨ j = 25 ∨ j = 26 ∨ j = 27 ∨ j = 28 ∨ j = 29 ∨ j = 30 ∨ j = 31 by omega) with rfl | rfl | rfl | rfl | rfl | rfl | rfl | rfl | rfl | rfl | rfl | rfl | rfl | rfl | rfl | rfl | rfl | rfl | rfl | rfl | rfl | rfl | rfl | rfl | rfl | rfl | rfl | rfl | rfl | rfl | rfl | rfl
      · refine bq_tswIn (off := 143) (t := 176) G dL_law_33 (by decide) (by decide) rfl (by decide) ?_
        exact lw_c0 GS hN h6 hv next
      · refine bq_tswIn (off := 166) (t := 199) G dL_law_33 (by decide) (by decide) rfl (by decide) ?_
        exact lw_c1 GS hN h6 hv next
      · refine bq_tswIn (off := 179) (t := 212) G dL_law_33 (by decide) (by decide) rfl (by decide) ?_
        exact lw_c2 GS hN h6 hv next
      · refine bq_tswIn (off := 192) (t := 225) G dL_law_33 (by decide) (by decide) rfl (by decide) ?_
        exact lw_c3 GS hN h6 hv next
      · refine bq_tswIn (off := 225) (t := 258) G dL_law_33 (by decide) (by decide) rfl (by decide) ?_
        exact lw_c4 GS hN h6 hv next
      · refine bq_tswIn (off := 248) (t := 281) G dL_law_33 (by decide) (by decide) rfl (by decide) ?_
        exact lw_c5 GS hN h6 hv next
      · refine bq_tswIn (off := 261) (t := 294) G dL_law_33 (by decide) (by decide) rfl (by decide) ?_
        exact lw_c6 GS hN h6 hv next
      · refine bq_tswIn (off := 284) (t := 317) G dL_law_33 (by decide) (by decide) rfl (by decide) ?_
        exact lw_c7 GS hN h6 hv next
      · refine bq_tswIn (off := 307) (t := 340) G dL_law_33 (by decide) (by decide) rfl (by decide) ?_
        exact lw_c8 GS hN h6 hv next
      · refine bq_tswIn (off := 330) (t := 363) G dL_law_33 (by decide) (by decide) rfl (by decide) ?_
        exact lw_c9 GS hN h6 hv next
      · refine bq_tswIn (off := 353) (t := 386) G dL_law_33 (by decide) (by decide) rfl (by decide) ?_
        exact lw_c10 GS hN h6 hv next
      · refine bq_tswIn (off := 376) (t := 409) G dL_law_33 (by decide) (by decide) rfl (by decide) ?_
        exact lw_c11 GS hN h6 hv next
      · refine bq_tswIn (off := 389) (t := 422) G dL_law_33 (by decide) (by decide) rfl (by decide) ?_
        exact lw_c12 GS hN h6 hv next
      · refine bq_tswIn (off := 412) (t := 445) G dL_law_33 (by decide) (by decide) rfl (by decide) ?_
        exact lw_c13 GS hN h6 hv next
      · refine bq_tswIn (off := 425) (t := 458) G dL_law_33 (by decide) (by decide) rfl (by decide) ?_
        exact lw_c14 GS hN h6 hv next
      · refine bq_tswIn (off := 448) (t := 481) G dL_law_33 (by decide) (by decide) rfl (by decide) ?_
        exact lw_c15 GS hN h6 hv next
      · refine bq_tswIn (off := 471) (t := 504) G dL_law_33 (by decide) (by decide) rfl (by decide) ?_
        exact lw_c16 GS hN h6 hv next
      · refine bq_tswIn (off := 494) (t := 527) G dL_law_33 (by decide) (by decide) rfl (by decide) ?_
        exact lw_c17 GS hN h6 hv next
      · refine bq_tswIn (off := 517) (t := 550) G dL_law_33 (by decide) (by decide) rfl (by decide) ?_
        exact lw_c18 GS hN h6 hv next
      · refine bq_tswIn (off := 540) (t := 573) G dL_law_33 (by decide) (by decide) rfl (by decide) ?_
        exact lw_c19 GS hN h6 hv next
      · refine bq_tswIn (off := 564) (t := 597) G dL_law_33 (by decide) (by decide) rfl (by decide) ?_
        exact lw_c20 GS hN h6 hv next
      · refine bq_tswIn (off := 607) (t := 640) G dL_law_33 (by decide) (by decide) rfl (by decide) ?_
        exact lw_c21 GS hN h6 hv next
      · refine bq_tswIn (off := 640) (t := 673) G dL_law_33 (by decide) (by decide) rfl (by decide) ?_
        exact lw_c22 GS hN h6 hv next
      · refine bq_tswIn (off := 663) (t := 696) G dL_law_33 (by decide) (by decide) rfl (by decide) ?_
        exact lw_c23 GS hN h6 hv next
      · refine bq_tswIn (off := 696) (t := 729) G dL_law_33 (by decide) (by decide) rfl (by decide) ?_
        exact lw_c24 GS hN h6 hv next
      · refine bq_tswIn (off := 709) (t := 742) G dL_law_33 (by decide) (by decide) rfl (by decide) ?_
        exact lw_c25 GS hN h6 hv next
      · refine bq_tswIn (off := 722) (t := 755) G dL_law_33 (by decide) (by decide) rfl (by decide) ?_
        exact lw_c26 GS hN h6 hv next
      · refine bq_tswIn (off := 785) (t := 818) G dL_law_33 (by decide) (by decide) rfl (by decide) ?_
        exact lw_c27 GS hN h6 hv next
      · refine bq_tswIn (off := 818) (t := 851) G dL_law_33 (by decide) (by decide) rfl (by decide) ?_
        exact lw_c28 GS hN h6 hv next
      · refine bq_tswIn (off := 841) (t := 874) G dL_law_33 (by decide) (by decide) rfl (by decide) ?_
        exact lw_c29 GS hN h6 hv next
      · refine bq_tswIn (off := 864) (t := 897) G dL_law_33 (by decide) (by decide) rfl (by decide) ?_
        exact lw_c30 GS hN h6 hv next
      · refine bq_tswIn (off := 887) (t := 920) G dL_law_33 (by decide) (by decide) rfl (by decide) ?_
        exact lw_c31 GS hN h6 hv next
    · refine bq_icmp_gt_t (t := 940) G dL_law_24 (by decide) ((lw_ge hN hi).mpr (by omega)) ?_
      refine bq_iconst (q := 941) (v := 1) G (by decide) dL_law_940 rfl ?_
      exact fin _ _ _
