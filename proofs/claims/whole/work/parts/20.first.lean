theorem bq_ixa {x y : Int32} {a b : Nat} (hx : x = nI a) (hy : y = nI b) : x + y = nI (a + b) := by rw [hx, hy, nI_add]
theorem bq_nb (P : Prop) [Decidable P] : narrow .boolean (.int (if P then 1 else 0)) = .int (if P then 1 else 0) := by split <;> rfl
section BqB
variable {cc : ByteArray} {own nm : String} {nL z : Nat} {Rm : Room} {A : bq_A} {cells slots pc q n : Nat} {ls : bq_LS} {st : List Value} {R : bq_RR} {I : bq_IR} {L : bq_LR}
theorem bq_ifb_eq (G : bq_Cx cc own nL z Rm nm A) {P : Prop} [Decidable P] {off : Int} {t : Nat} (hd : decode cc pc = .ok (.ifCond .eq off, 3)) (ht : (pc : Int) + off = (t : Int)) (hp : pc + 3 = q) (kt : ¬ P → A cells slots t ls st n R I L) (kf : P → A cells slots q ls st n R I L) : A cells slots pc ls (.int (if P then 1 else 0) :: st) n R I L := by
  refine bq_if_eq G hd ht hp (fun h => kt (fun hP => ?_)) (fun h => kf (Decidable.byContradiction fun hP => h (if_neg hP)))
  rw [if_pos hP] at h
  exact absurd h (by decide)
theorem bq_ifb_ne (G : bq_Cx cc own nL z Rm nm A) {P : Prop} [Decidable P] {off : Int} {t : Nat} (hd : decode cc pc = .ok (.ifCond .ne off, 3)) (ht : (pc : Int) + off = (t : Int)) (hp : pc + 3 = q) (kt : P → A cells slots t ls st n R I L) (kf : ¬ P → A cells slots q ls st n R I L) : A cells slots pc ls (.int (if P then 1 else 0) :: st) n R I L := by
  refine bq_if_ne G hd ht hp (fun h => kt (Decidable.byContradiction fun hP => h (if_neg hP))) (fun h => kf (fun hP => ?_))
  rw [if_pos hP] at h
  exact absurd h (by decide)
theorem bq_ri {mc ms : Nat} {r r' : Int32} {I' : bq_IR} {L' : bq_LR} (h : A mc ms pc ls [.int r] n R I L) (e1 : r' = r) (e2 : I' = I) (e3 : L' = L) : A mc ms pc ls [.int r'] n R I' L' := by subst e1 e2 e3; exact h
theorem bq_rl {mc ms : Nat} {r r' : Int64} {I' : bq_IR} {L' : bq_LR} (h : A mc ms pc ls [.long r] n R I L) (e1 : r' = r) (e2 : I' = I) (e3 : L' = L) : A mc ms pc ls [.long r'] n R I' L' := by subst e1 e2 e3; exact h
theorem bq_rv {mc ms : Nat} {R' : bq_RR} {I' : bq_IR} {L' : bq_LR} (h : A mc ms pc ls [] n R I L) (e1 : R' = R) (e2 : I' = I) (e3 : L' = L) : A mc ms pc ls [] n R' I' L' := by subst e1 e2 e3; exact h
end BqB
/-- down from N -/
theorem bq_down {P : Nat → Prop} (N : Nat) (h : ∀ k, k ≤ N → (k < N → P (k + 1)) → P k) : ∀ k, k ≤ N → P k := by
  intro k hk
  obtain ⟨d, hd⟩ : ∃ d, N = k + d := ⟨N - k, by omega⟩
  induction d generalizing k with
  | zero => exact h k hk (fun hlt => by omega)
  | succ d ih => exact h k hk (fun hlt => ih (k + 1) hlt (by omega))
set_option maxHeartbeats 4000000 in
set_option maxRecDepth 100000 in
theorem c_X8_bitOf {z n : Nat} {R : bq_RR} {I : bq_IR} {L : bq_LR} {x b : Int32}  : bq_FC MX8_bitOf z [.int x, .int b] n R I L 0 0 (some (.int (x >>> (b &&& 31) &&& 1))) n R (I) (L) := by
  refine bq_ofI [some (.int x), some (.int b)] rfl (Nat.le_of_ble_eq_true rfl) (by decide) rfl rfl ?_
  intro A G hret
  have G : bq_Cx cX8_bitOf RX8 2 z (bq_rm MX8_bitOf 0 0) "bitOf" A := G
  refine bq_iload_n (q := 1) G rfl dX8_bitOf_0 rfl ?_
  refine bq_iload_n (q := 2) G rfl dX8_bitOf_1 rfl ?_
  refine bq_ishr (q := 3) G dX8_bitOf_2 rfl ?_
  refine bq_iconst (q := 4) (v := 1) G (by decide) dX8_bitOf_3 rfl ?_
  refine bq_iand (q := 5) G dX8_bitOf_4 rfl ?_
  exact hret _ _ dX8_bitOf_5
set_option maxHeartbeats 4000000 in
set_option maxRecDepth 100000 in
theorem c_J9_max_7cf53 {z n : Nat} {R : bq_RR} {I : bq_IR} {L : bq_LR} {x y : Int32}  : bq_FC MJ9_max_7cf53 z [.int x, .int y] n R I L 0 0 (some (.int (if x < y then y else x))) n R (I) (L) := by
  refine bq_ofI [some (.int x), some (.int y)] rfl (Nat.le_of_ble_eq_true rfl) (by decide +kernel) rfl rfl ?_
  intro A G hret
  have G : bq_Cx cJ9_max_7cf53 RJ9 2 z (bq_rm MJ9_max_7cf53 0 0) "max" A := G
  refine bq_iload_n (q := 1) G rfl dJ9_max_7cf53_0 rfl ?_
  refine bq_iload_n (q := 2) G rfl dJ9_max_7cf53_1 rfl ?_
  refine bq_icmp_lt (t := 9) (q := 5) G dJ9_max_7cf53_2 (by decide) rfl (fun c2 => ?_) (fun c2 => ?_)
  · refine bq_iload_n (q := 10) G rfl dJ9_max_7cf53_9 rfl ?_
    exact bq_ri (hret _ _ dJ9_max_7cf53_10) (by simp [c2]) rfl rfl
  · refine bq_iload_n (q := 6) G rfl dJ9_max_7cf53_5 rfl ?_
    refine bq_goto (q := 10) G dJ9_max_7cf53_6 (by decide) ?_
    exact bq_ri (hret _ _ dJ9_max_7cf53_10) (by simp [c2]) rfl rfl
set_option maxHeartbeats 4000000 in
set_option maxRecDepth 100000 in
theorem c_J9_min_7cf53 {z n : Nat} {R : bq_RR} {I : bq_IR} {L : bq_LR} {x y : Int32}  : bq_FC MJ9_min_7cf53 z [.int x, .int y] n R I L 0 0 (some (.int (if y < x then y else x))) n R (I) (L) := by
  refine bq_ofI [some (.int x), some (.int y)] rfl (Nat.le_of_ble_eq_true rfl) (by decide +kernel) rfl rfl ?_
  intro A G hret
  have G : bq_Cx cJ9_min_7cf53 RJ9 2 z (bq_rm MJ9_min_7cf53 0 0) "min" A := G
  refine bq_iload_n (q := 1) G rfl dJ9_min_7cf53_0 rfl ?_
  refine bq_iload_n (q := 2) G rfl dJ9_min_7cf53_1 rfl ?_
  refine bq_icmp_gt (t := 9) (q := 5) G dJ9_min_7cf53_2 (by decide) rfl (fun c2 => ?_) (fun c2 => ?_)
  · refine bq_iload_n (q := 10) G rfl dJ9_min_7cf53_9 rfl ?_
    exact bq_ri (hret _ _ dJ9_min_7cf53_10) (by simp [c2]) rfl rfl
  · refine bq_iload_n (q := 6) G rfl dJ9_min_7cf53_5 rfl ?_
    refine bq_goto (q := 10) G dJ9_min_7cf53_6 (by decide) ?_
    exact bq_ri (hret _ _ dJ9_min_7cf53_10) (by simp [c2]) rfl rfl
set_option maxHeartbeats 4000000 in
set_option maxRecDepth 100000 in
theorem c_X9_in {z n : Nat} {R : bq_RR} {I : bq_IR} {L : bq_LR} {v a b : Int32}  : bq_FC MX9_in z [.int v, .int a, .int b] n R I L 0 0 (some (.int (if a ≤ v ∧ v ≤ b then 1 else 0))) n R (I) (L) := by
  refine bq_ofI [some (.int v), some (.int a), some (.int b)] rfl (Nat.le_of_ble_eq_true rfl) (by decide) rfl (by first | rfl | exact bq_nb _ | (split <;> rfl)) ?_
  intro A G hret
  have G : bq_Cx cX9_in RX9 3 z (bq_rm MX9_in 0 0) "in" A := G
  refine bq_iload_n (q := 1) G rfl dX9_in_0 rfl ?_
  refine bq_iload_n (q := 2) G rfl dX9_in_1 rfl ?_
  refine bq_icmp_lt (t := 14) (q := 5) G dX9_in_2 (by decide) rfl (fun c2 => ?_) (fun c2 => ?_)
  · refine bq_iconst (q := 15) (v := 0) G (by decide) dX9_in_14 rfl ?_
    exact bq_ri (hret _ _ dX9_in_15) (by simp only [Int32.lt_iff_toInt_lt, Int32.le_iff_toInt_le] at *; (repeat' split) <;> first | rfl | omega) rfl rfl
  · refine bq_iload_n (q := 6) G rfl dX9_in_5 rfl ?_
    refine bq_iload_n (q := 7) G rfl dX9_in_6 rfl ?_
    refine bq_icmp_gt (t := 14) (q := 10) G dX9_in_7 (by decide) rfl (fun c7 => ?_) (fun c7 => ?_)
    · refine bq_iconst (q := 15) (v := 0) G (by decide) dX9_in_14 rfl ?_
      exact bq_ri (hret _ _ dX9_in_15) (by simp only [Int32.lt_iff_toInt_lt, Int32.le_iff_toInt_le] at *; (repeat' split) <;> first | rfl | omega) rfl rfl
    · refine bq_iconst (q := 11) (v := 1) G (by decide) dX9_in_10 rfl ?_
      refine bq_goto (q := 15) G dX9_in_11 (by decide) ?_
      exact bq_ri (hret _ _ dX9_in_15) (by simp only [Int32.lt_iff_toInt_lt, Int32.le_iff_toInt_le] at *; (repeat' split) <;> first | rfl | omega) rfl rfl
set_option maxHeartbeats 4000000 in
set_option maxRecDepth 100000 in
theorem c_X9_isNumber {z n : Nat} {R : bq_RR} {I : bq_IR} {L : bq_LR} {b : Int32}  : bq_FC MX9_isNumber z [.int b] n R I L 0 0 (some (.int (if 0 ≤ b ∧ b ≤ 7 then 1 else 0))) n R (I) (L) := by
  refine bq_ofI [some (.int b)] rfl (Nat.le_of_ble_eq_true rfl) (by decide) rfl (by first | rfl | exact bq_nb _ | (split <;> rfl)) ?_
  intro A G hret
  have G : bq_Cx cX9_isNumber RX9 1 z (bq_rm MX9_isNumber 0 0) "isNumber" A := G
  refine bq_iload_n (q := 1) G rfl dX9_isNumber_0 rfl ?_
  refine bq_iconst (q := 2) (v := 0) G (by decide) dX9_isNumber_1 rfl ?_
  refine bq_bipush (q := 4) (v := 7) G (by decide) dX9_isNumber_2 rfl ?_
  refine bq_calls (q := 7) G dX9_isNumber_4 rfl cl_X9_45 (c_X9_in) rfl rfl ⟨Nat.le_of_ble_eq_true rfl, Nat.le_of_ble_eq_true rfl⟩ (Nat.le_of_ble_eq_true rfl) ⟨Nat.le_of_ble_eq_true rfl, Nat.le_of_ble_eq_true rfl⟩ rfl ?_
  exact hret _ _ dX9_isNumber_7
