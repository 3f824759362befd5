theorem kr_B0 : ∀ j, cd_B kr_T0 0 j = 0 := by
  intro j
  have h0 : kr_T0 0 = 0 := by decide
  have h1 : kr_T0 0 / kr_T0 1 = 0 := by decide
  unfold cd_B
  rw [h1, h0]
  unfold upd
  split
  · rfl
  · split
    · rfl
    · rfl
theorem kr_Z {I : bq_IR} {a : Nat} (h : ∀ x, a ≤ x → x ≤ a + 3 → I x = fun _ => 0) : gs_Mr I a (fun _ => 0) := by
  have f : ∀ (o : Nat) (w : Int32), w = 0 → gs_F (fun _ => 0) o w := fun o w hw => ⟨0, by decide, hw, fun j hj => by simp; rfl⟩
  have ha := h a (by omega) (by omega)
  refine ⟨⟨by rw [ha], fun b hb => ⟨by rw [h (a + 1) (by omega) (by omega)], by rw [h (a + 2) (by omega) (by omega)], by rw [h (a + 3) (by omega) (by omega)]⟩, f _ _ (by rw [ha]), f _ _ (by rw [ha]), f _ _ (by rw [ha]), f _ _ (by rw [ha])⟩, by rw [ha], by rw [ha]⟩
theorem kr_d0 : ∀ j, j < 5 → cf_s j = kr_T0 j := by decide
theorem kr_inv {I K : bq_IR} {L : bq_LR} (hI : kr_I5 16 I) (hK : ∀ x, x < 75 → K x = I x) (hM : kr_M K) (hL : L = bq_sr (fun _ _ => 0) 72 (vp_updL (fun _ => 0) 1 1)) : INV K L := by
  obtain ⟨⟨i1, i2, i3, i4, i5⟩, iz⟩ := hI
  obtain ⟨⟨k76, k77, k79, k80, k81, k83⟩, ⟨k2, k7, k11⟩, k820, k821⟩ := hM
  have z0 : ∀ x, x < 75 → (x < 5 ∨ 16 < x) → K x = fun _ => 0 := fun x a b => (hK x a).trans (iz x b)
  have hok : rd_ok kr_T0 0 := (rd_ok0 (fun _ => 0)).cg (fun j hj => gs_cp_lt hj)
  have hz : ∀ j, j < 59 → gs_beg kr_T0 0 (fun _ => 0) j = 0 := fun j hj => (cd_beg (fun _ _ => rfl) (by decide) j hj).trans (kr_B0 j)
  have hB : cd_B kr_T0 0 = fun _ => 0 := funext kr_B0
  have ok0 := cd_ok hok
  rw [hB] at ok0
  refine ⟨⟨0, 0, 0, 0, 0, ⟨?_, ?_, ?_, ?_⟩, ?_, ⟨⟨k7, by decide, ?_, ?_, by decide⟩, fun i hi => by omega⟩, ?_, ⟨⟨?_, k11, by decide⟩, fun i hi => by omega⟩, ⟨?_, k2, by decide⟩, ?_, ?_⟩, ?_⟩
  · rw [k77]; exact hok
  · intro j hj
    rw [hK 6 (by decide), i1 j hj, k77]; exact kr_d0 j hj
  · rw [hK 5 (by decide)]; exact i2
  · rw [k77, hB]
    exact gs_Mr.fr (I := I) ⟨i3, i4, i5⟩ (fun x a b => hK x (by omega))
  · have hrow : iv_row K 17 (fun _ => 0) := ⟨kr_Z (fun x a b => z0 x (by omega) (by omega)), ok0.1, by decide, by decide⟩
    rw [k79]
    exact hrow.row hz
  · rw [z0 25 (by decide) (by decide)]; rfl
  · rw [z0 25 (by decide) (by decide)]; rfl
  · intro i hi
    have e0 : K 82 i = 0 := by
      rcases (show i = 0 ∨ i = 1 by omega) with rfl | rfl
      · exact k820
      · exact k821
    exact ⟨by rw [e0, z0 68 (by decide) (by decide)], fun hn => absurd e0 hn⟩
  · rw [z0 69 (by decide) (by decide)]; rfl
  · rw [z0 1 (by decide) (by decide)]; rfl
  · rw [z0 2 (by decide) (by decide), k76]
  · intro j
    rw [z0 2 (by decide) (by decide)]
    show (0 : Int32) ≤ 0 ∧ (0 : Int32) ≤ 255
    decide
  · rw [hL, bq_sr_n (by decide), bq_sr_n (by decide)]
set_option maxHeartbeats 4000000 in
set_option maxRecDepth 100000 in
theorem lw_body {z b N : Nat} {xs : Nat → Int32} {nm : String} {A : bq_A} (GS : bq_CxS b N xs cL_law RL 4 z room_1 nm A) (hN : N ≤ 3072) (fin : ∀ (ls : bq_LS) (I : bq_IR) (L : bq_LR), A 85 1785 941 ls [.int 1] 85 (bq_Rf z) I L) :
    A 0 0 0 [some (.ref b), none, none, none] [] 0 (fun _ _ => none) (fun _ _ => 0) (fun _ _ => 0) := by
  have G := GS.cx
  refine bq_new (q := 3) (ci := 8) G dL_law_0 rfl (by decide) wl_L_7 wa_X8 wi_X8 rfl (fun _ _ => ⟨rfl, rfl, rfl⟩) (Nat.le_of_ble_eq_true rfl) (Nat.le_of_ble_eq_true rfl) ?_
  refine bq_dup (q := 4) G rfl dL_law_3 rfl ?_
  refine bq_calliK (q := 7) (n' := 75) G dL_law_4 rfl cl_L_9 rfl c_X8_init rfl rfl ⟨Nat.le_of_ble_eq_true rfl, Nat.le_of_ble_eq_true rfl⟩ (Nat.le_of_ble_eq_true rfl) ⟨Nat.le_of_ble_eq_true rfl, Nat.le_of_ble_eq_true rfl⟩ (fun R1 I1 L1 h1 => ?_)
  obtain ⟨r1, r2, i1, l1⟩ := h1
  refine bq_astore_n (q := 8) (ls' := [_, _, _, _]) G dL_law_7 rfl (by decide) rfl rfl ?_
  have hz : ∀ x, 75 ≤ x → L1 x = fun _ => 0 := fun x hx => by rw [l1, bq_sr_n (by omega)]
  refine bq_new (q := 11) (ci := 9) G dL_law_8 rfl (by decide) wl_L_10 wa_X9 wi_X9 rfl (fun x hx => ⟨r2 x hx, i1.2 x (by omega), hz x hx⟩) (Nat.le_of_ble_eq_true rfl) (Nat.le_of_ble_eq_true rfl) ?_
  refine bq_dup (q := 12) G rfl dL_law_11 rfl ?_
  refine bq_calliK (q := 15) (n' := 85) G dL_law_12 rfl cl_L_12 rfl (c_X9_init r1 r2 (fun x hx => i1.2 x (by omega)) hz) rfl rfl ⟨Nat.le_of_ble_eq_true rfl, Nat.le_of_ble_eq_true rfl⟩ (Nat.le_of_ble_eq_true rfl) ⟨Nat.le_of_ble_eq_true rfl, Nat.le_of_ble_eq_true rfl⟩ (fun R2 I2 L2 h2 => ?_)
  obtain ⟨rfl, q2, q3, rfl⟩ := h2
  refine bq_astore_n (q := 16) (ls' := [_, _, _, _]) G dL_law_15 rfl (by decide) rfl rfl ?_
  refine bq_iconst (q := 17) (v := 0) G (by decide) dL_law_16 rfl ?_
  refine bq_istore_n (q := 18) (ls' := [_, _, _, _]) G dL_law_17 rfl (by decide) rfl rfl ?_
  exact lw_loop GS hN fin (N + 1) 0 I2 _ (by omega) (by omega) (kr_inv i1 q2 q3 l1)
