/-! each call: both answer alike, and stand side by side again -/
theorem gs_cD.hi {I J : bq_IR} {p l : Nat} {S S' : Nat → Int32} (h : gs_cD I p l S S' J) {x : Nat} (hx : 75 ≤ x) : J x = I x := h.2.2.2 x (by omega) (by omega) (by omega)
theorem op_th {S : Nat → Int32} {b : Int32} {k : Nat} (hk : k < 8) (e : b = nI k) (h : S (51 + k) = 1) : (0 ≤ b ∧ b ≤ 7) ∧ S (51 + b.toNatClampNeg) = 1 := by
  subst e
  rw [nI_clamp (by omega)]
  exact ⟨⟨nI_pos' (by omega), nI_le (b := 7) (by omega) (by decide)⟩, h⟩
theorem op_k {b : Int32} {k k' : Nat} (hk : k < 8) (hk' : k' < 8) (e : b = nI k) (e' : b = nI k') : k = k' := (nI_eq (by omega) (by omega)).mp (e.symm.trans e')
section Ops
variable {I J K : bq_IR} {m t p l q : Nat} {r1 r2 b c : Int32}
theorem op_minute (h : iv_P I m t p l q) (h1 : (I 79 0 = 9999 ∧ r1 = -2 ∧ J = I) ∨ (¬ I 79 0 = 9999 ∧ r1 = gs_go (I 77 4) (I 77 2) (I 77 1) (I 79) 1 / I 77 1 ∧ gs_cD I p l (I 79) (gs_go (I 77 4) (I 77 2) (I 77 1) (I 79)) J)) (h2 : (J 79 0 = 9999 ∧ r2 = -2 ∧ K = J) ∨ (¬ J 79 0 = 9999 ∧ r2 = gs_go (J 77 4) (J 77 2) (J 77 1) (J 79) 1 / J 77 1 ∧ gs_mP J p (gs_go (J 77 4) (J 77 2) (J 77 1) (J 79)) K)) : r1 = r2 ∧ ∃ m t p l q, iv_P K m t p l q := by
  rcases h1 with ⟨a, rfl, rfl⟩ | ⟨a, rfl, hD⟩
  · rcases h2 with ⟨_, rfl, rfl⟩ | ⟨a2, _⟩
    · exact ⟨rfl, _, _, _, _, _, h⟩
    · exact absurd a a2
  · rw [hD.hi (x := 79) (by decide), hD.hi (x := 77) (by decide)] at h2
    rcases h2 with ⟨a2, _⟩ | ⟨_, rfl, hM⟩
    · exact absurd a2 a
    · refine ⟨rfl, _, _, _, _, _, iv_does h hD hM (h.2.1.2.1.go h.1.1.1.2.2.1.1) ?_⟩
      rw [gs_go_0]
      exact iv_minb h.2.1.2.2 a
theorem op_splits (h : iv_P I m t p l q) (h1 : (¬ ((0 ≤ b ∧ b ≤ 7) ∧ I 79 (51 + b.toNatClampNeg) = 1) ∧ r1 = -1 ∧ J = I) ∨ ∃ k : Nat, k < 8 ∧ b = nI k ∧ I 79 (51 + k) = 1 ∧ ((¬ (I 79 (3 + k) = 1 ∨ ¬ gs_fk (I 79) 8 0 = -9) ∧ r1 = -3 ∧ J = I) ∨ ((I 79 (3 + k) = 1 ∨ ¬ gs_fk (I 79) 8 0 = -9) ∧ r1 = gs_spr k (I 79) ∧ gs_cD I p l (I 79) (gs_sp k (I 79)) J))) (h2 : (¬ ((0 ≤ b ∧ b ≤ 7) ∧ J 79 (51 + b.toNatClampNeg) = 1) ∧ r2 = -1 ∧ K = J) ∨ ∃ k : Nat, k < 8 ∧ b = nI k ∧ J 79 (51 + k) = 1 ∧ ((¬ (J 79 (3 + k) = 1 ∨ ¬ gs_fk (J 79) 8 0 = -9) ∧ r2 = -3 ∧ K = J) ∨ ((J 79 (3 + k) = 1 ∨ ¬ gs_fk (J 79) 8 0 = -9) ∧ r2 = gs_spr k (J 79) ∧ gs_mP J p (gs_sp k (J 79)) K))) : r1 = r2 ∧ ∃ m t p l q, iv_P K m t p l q := by
  rcases h1 with ⟨a, rfl, rfl⟩ | ⟨k, hk, e, h51, ⟨a, rfl, rfl⟩ | ⟨a, rfl, hD⟩⟩
  · rcases h2 with ⟨_, rfl, rfl⟩ | ⟨k, hk, e, h51, _⟩
    · exact ⟨rfl, _, _, _, _, _, h⟩
    · exact absurd (op_th hk e h51) a
  · rcases h2 with ⟨a2, _⟩ | ⟨k', hk', e', h51', ⟨a2, rfl, rfl⟩ | ⟨a2, _⟩⟩
    · exact absurd (op_th hk e h51) a2
    · exact ⟨rfl, _, _, _, _, _, h⟩
    · have := op_k hk hk' e e'; subst this; exact absurd a2 a
  · rw [hD.hi (x := 79) (by decide)] at h2
    rcases h2 with ⟨a2, _⟩ | ⟨k', hk', e', h51', ⟨a2, _⟩ | ⟨a2, rfl, hM⟩⟩
    · exact absurd (op_th hk e h51) a2
    · have := op_k hk hk' e e'; subst this; exact absurd a a2
    · have := op_k hk hk' e e'
      subst this
      refine ⟨rfl, _, _, _, _, _, iv_does h hD hM (h.2.1.2.1.sp hk h51 a) ?_⟩
      rw [gs_sp_lo (by decide)]
      exact h.2.1.2.2
theorem op_teaches (h : iv_P I m t p l q) (h1 : (¬ ((0 ≤ b ∧ b ≤ 7) ∧ I 79 (51 + b.toNatClampNeg) = 1) ∧ r1 = -1 ∧ J = I) ∨ ∃ k : Nat, k < 8 ∧ b = nI k ∧ I 79 (51 + k) = 1 ∧ (r1 = 1 - I 79 (27 + k) ∧ gs_cD I p l (I 79) (upd (I 79) (27 + k) (1 - I 79 (27 + k))) J)) (h2 : (¬ ((0 ≤ b ∧ b ≤ 7) ∧ J 79 (51 + b.toNatClampNeg) = 1) ∧ r2 = -1 ∧ K = J) ∨ ∃ k : Nat, k < 8 ∧ b = nI k ∧ J 79 (51 + k) = 1 ∧ (r2 = 1 - J 79 (27 + k) ∧ gs_mP J p (upd (J 79) (27 + k) (1 - J 79 (27 + k))) K)) : r1 = r2 ∧ ∃ m t p l q, iv_P K m t p l q := by
  rcases h1 with ⟨a, rfl, rfl⟩ | ⟨k, hk, e, h51, rfl, hD⟩
  · rcases h2 with ⟨_, rfl, rfl⟩ | ⟨k, hk, e, h51, _⟩
    · exact ⟨rfl, _, _, _, _, _, h⟩
    · exact absurd (op_th hk e h51) a
  · rw [hD.hi (x := 79) (by decide)] at h2
    rcases h2 with ⟨a2, _⟩ | ⟨k', hk', e', h51', rfl, hM⟩
    · exact absurd (op_th hk e h51) a2
    · have := op_k hk hk' e e'
      subst this
      refine ⟨rfl, _, _, _, _, _, iv_does h hD hM (h.2.1.2.1.put27 hk ?_) ?_⟩
      · rcases (h.2.1.2.1.2 k hk).2.2.1 with e | e <;> rw [e]
        · exact Or.inr rfl
        · exact Or.inl rfl
      · rw [pk_un (by omega)]; exact h.2.1.2.2
theorem op_bores (h : iv_P I m t p l q) (h1 : (¬ ((0 ≤ b ∧ b ≤ 7) ∧ I 79 (51 + b.toNatClampNeg) = 1) ∧ r1 = -1 ∧ J = I) ∨ ∃ k : Nat, k < 8 ∧ b = nI k ∧ I 79 (51 + k) = 1 ∧ ((I 79 (35 + k) = 1 ∧ r1 = -2 ∧ J = I) ∨ (¬ I 79 (35 + k) = 1 ∧ r1 = I 79 (3 + k) ∧ gs_cD I p l (I 79) (upd (I 79) (35 + k) 1) J))) (h2 : (¬ ((0 ≤ b ∧ b ≤ 7) ∧ J 79 (51 + b.toNatClampNeg) = 1) ∧ r2 = -1 ∧ K = J) ∨ ∃ k : Nat, k < 8 ∧ b = nI k ∧ J 79 (51 + k) = 1 ∧ ((J 79 (35 + k) = 1 ∧ r2 = -2 ∧ K = J) ∨ (¬ J 79 (35 + k) = 1 ∧ r2 = J 79 (3 + k) ∧ gs_mP J p (upd (J 79) (35 + k) 1) K))) : r1 = r2 ∧ ∃ m t p l q, iv_P K m t p l q := by
  rcases h1 with ⟨a, rfl, rfl⟩ | ⟨k, hk, e, h51, ⟨a, rfl, rfl⟩ | ⟨a, rfl, hD⟩⟩
  · rcases h2 with ⟨_, rfl, rfl⟩ | ⟨k, hk, e, h51, _⟩
    · exact ⟨rfl, _, _, _, _, _, h⟩
    · exact absurd (op_th hk e h51) a
  · rcases h2 with ⟨a2, _⟩ | ⟨k', hk', e', h51', ⟨a2, rfl, rfl⟩ | ⟨a2, _⟩⟩
    · exact absurd (op_th hk e h51) a2
    · exact ⟨rfl, _, _, _, _, _, h⟩
    · have := op_k hk hk' e e'; subst this; exact absurd a a2
  · rw [hD.hi (x := 79) (by decide)] at h2
    rcases h2 with ⟨a2, _⟩ | ⟨k', hk', e', h51', ⟨a2, _⟩ | ⟨a2, rfl, hM⟩⟩
    · exact absurd (op_th hk e h51) a2
    · have := op_k hk hk' e e'; subst this; exact absurd a2 a
    · have := op_k hk hk' e e'
      subst this
      refine ⟨rfl, _, _, _, _, _, iv_does h hD hM (h.2.1.2.1.put35 hk) ?_⟩
      rw [pk_un (by omega)]; exact h.2.1.2.2
theorem op_burns (h : iv_P I m t p l q) (h1 : (¬ ((0 ≤ b ∧ b ≤ 7) ∧ I 79 (51 + b.toNatClampNeg) = 1) ∧ r1 = -1 ∧ J = I) ∨ ∃ k : Nat, k < 8 ∧ b = nI k ∧ I 79 (51 + k) = 1 ∧ ((I 79 (43 + k) = 1 ∧ r1 = -2 ∧ J = I) ∨ (¬ I 79 (43 + k) = 1 ∧ r1 = gs_on (gs_orb (upd (I 79) (51 + k) 0) 8) 8 ∧ gs_cD I p l (I 79) (upd (I 79) (51 + k) 0) J))) (h2 : (¬ ((0 ≤ b ∧ b ≤ 7) ∧ J 79 (51 + b.toNatClampNeg) = 1) ∧ r2 = -1 ∧ K = J) ∨ ∃ k : Nat, k < 8 ∧ b = nI k ∧ J 79 (51 + k) = 1 ∧ ((J 79 (43 + k) = 1 ∧ r2 = -2 ∧ K = J) ∨ (¬ J 79 (43 + k) = 1 ∧ r2 = gs_on (gs_orb (upd (J 79) (51 + k) 0) 8) 8 ∧ gs_mP J p (upd (J 79) (51 + k) 0) K))) : r1 = r2 ∧ ∃ m t p l q, iv_P K m t p l q := by
  rcases h1 with ⟨a, rfl, rfl⟩ | ⟨k, hk, e, h51, ⟨a, rfl, rfl⟩ | ⟨a, rfl, hD⟩⟩
  · rcases h2 with ⟨_, rfl, rfl⟩ | ⟨k, hk, e, h51, _⟩
    · exact ⟨rfl, _, _, _, _, _, h⟩
    · exact absurd (op_th hk e h51) a
  · rcases h2 with ⟨a2, _⟩ | ⟨k', hk', e', h51', ⟨a2, rfl, rfl⟩ | ⟨a2, _⟩⟩
    · exact absurd (op_th hk e h51) a2
    · exact ⟨rfl, _, _, _, _, _, h⟩
    · have := op_k hk hk' e e'; subst this; exact absurd a a2
  · rw [hD.hi (x := 79) (by decide)] at h2
    rcases h2 with ⟨a2, _⟩ | ⟨k', hk', e', h51', ⟨a2, _⟩ | ⟨a2, rfl, hM⟩⟩
    · exact absurd (op_th hk e h51) a2
    · have := op_k hk hk' e e'; subst this; exact absurd a2 a
    · have := op_k hk hk' e e'
      subst this
      refine ⟨rfl, _, _, _, _, _, iv_does h hD hM (h.2.1.2.1.there0 hk) ?_⟩
      rw [pk_un (by omega)]; exact h.2.1.2.2
theorem op_halts (h : iv_P I m t p l q) (h1 : (¬ ((0 ≤ b ∧ b ≤ 7) ∧ I 79 (51 + b.toNatClampNeg) = 1) ∧ r1 = -1 ∧ J = I) ∨ ∃ k : Nat, k < 8 ∧ b = nI k ∧ I 79 (51 + k) = 1 ∧ (r1 = gs_on (gs_orb (upd (I 79) (51 + k) 0) 8) 8 ∧ gs_cD I p l (I 79) (upd (I 79) (51 + k) 0) J)) (h2 : (¬ ((0 ≤ b ∧ b ≤ 7) ∧ J 79 (51 + b.toNatClampNeg) = 1) ∧ r2 = -1 ∧ K = J) ∨ ∃ k : Nat, k < 8 ∧ b = nI k ∧ J 79 (51 + k) = 1 ∧ (r2 = gs_on (gs_orb (upd (J 79) (51 + k) 0) 8) 8 ∧ gs_mP J p (upd (J 79) (51 + k) 0) K)) : r1 = r2 ∧ ∃ m t p l q, iv_P K m t p l q := by
  rcases h1 with ⟨a, rfl, rfl⟩ | ⟨k, hk, e, h51, rfl, hD⟩
  · rcases h2 with ⟨_, rfl, rfl⟩ | ⟨k, hk, e, h51, _⟩
    · exact ⟨rfl, _, _, _, _, _, h⟩
    · exact absurd (op_th hk e h51) a
  · rw [hD.hi (x := 79) (by decide)] at h2
    rcases h2 with ⟨a2, _⟩ | ⟨k', hk', e', h51', rfl, hM⟩
    · exact absurd (op_th hk e h51) a2
    · have := op_k hk hk' e e'
      subst this
      refine ⟨rfl, _, _, _, _, _, iv_does h hD hM (h.2.1.2.1.there0 hk) ?_⟩
      rw [pk_un (by omega)]; exact h.2.1.2.2
theorem op_undo (h : iv_P I m t p l q) (h1 : (p = 0 ∧ r1 = -2 ∧ J = I) ∨ (∃ q : Nat, p = q + 1 ∧ r1 = nI q ∧ (gs_Mr J 17 (fun j => I 80 (59 * (p - 1) + j)) ∧ (J 25 1 = nI q ∧ J 25 2 = nI ((l + 7) % 8)) ∧ ∀ x, (x < 17 ∨ 20 < x) → x ≠ 25 → J x = I x))) (h2 : (p = 0 ∧ r2 = -2 ∧ K = J) ∨ (∃ q : Nat, p = q + 1 ∧ r2 = nI q ∧ K = bq_sr (bq_sr J 75 (upd (J 75) 7 (nI q))) 79 (gs_cp 59 (fun j => J 80 (59 * q + j)) (J 79)))) : r1 = r2 ∧ ∃ m t p l q, iv_P K m t p l q := by
  rcases h1 with ⟨rfl, rfl, rfl⟩ | ⟨u, rfl, rfl, g1, ⟨g2, g3⟩, g4⟩
  · rcases h2 with ⟨_, rfl, rfl⟩ | ⟨u, hu, _⟩
    · exact ⟨rfl, _, _, _, _, _, h⟩
    · omega
  · rcases h2 with ⟨hu, _⟩ | ⟨v, hv, rfl, rfl⟩
    · omega
    · have hv' : v = u := by omega
      subst hv'
      obtain ⟨h1, h2, ⟨⟨a1, a2, a3, a4, a5⟩, hr⟩, h4, h5, h6⟩ := h
      have e80 : J 80 = I 80 := g4 80 (by decide) (by decide)
      have hr0 := hr 0 (by omega)
      rw [show v + 1 - 1 - 0 = v by omega] at hr0
      rw [show v + 1 - 1 = v by omega] at g1
      have eK : ∀ x, x ≠ 75 → x ≠ 79 → bq_sr (bq_sr J 75 (upd (J 75) 7 (nI v))) 79 (gs_cp 59 (fun j => J 80 (59 * v + j)) (J 79)) x = J x := fun x a b => by rw [bq_sr_n b, bq_sr_n a]
      have eI : ∀ x, x ≠ 75 → x ≠ 79 → (x < 17 ∨ 20 < x) → x ≠ 25 → bq_sr (bq_sr J 75 (upd (J 75) 7 (nI v))) 79 (gs_cp 59 (fun j => J 80 (59 * v + j)) (J 79)) x = I x := fun x a b c d => (eK x a b).trans (g4 x c d)
      have e75 : ∀ j, j ≠ 7 → bq_sr (bq_sr J 75 (upd (J 75) 7 (nI v))) 79 (gs_cp 59 (fun j => J 80 (59 * v + j)) (J 79)) 75 j = I 75 j := fun j hj => by rw [bq_sr_n (by decide), bq_sr_s, pk_un hj, g4 75 (by decide) (by decide)]
      refine ⟨rfl, m, t, v, (l + 7) % 8, q, h1.fr (eI 77 (by decide) (by decide) (by decide) (by decide)) (fun x a b => eI x (by omega) (by omega) (by omega) (by omega)), ?_, ⟨⟨?_, by omega, ?_, ?_, Nat.mod_lt _ (by decide)⟩, fun i hi => ?_⟩, h4.fr (fun x a b => eI x (by omega) (by omega) (by omega) (by omega)) (eI 81 (by decide) (by decide) (by decide) (by decide)) (eI 82 (by decide) (by decide) (by decide) (by decide)), h5.fr (by rw [eI 69 (by decide) (by decide) (by decide) (by decide)]) (e75 11 (by decide)) (eI 70 (by decide) (by decide) (by decide) (by decide)) (eI 71 (by decide) (by decide) (by decide) (by decide)) (eI 83 (by decide) (by decide) (by decide) (by decide)), h6.fr (by rw [eI 1 (by decide) (by decide) (by decide) (by decide)]) (e75 2 (by decide)) (eI 2 (by decide) (by decide) (by decide) (by decide)) (eI 76 (by decide) (by decide) (by decide) (by decide))⟩
      · rw [bq_sr_s]
        have hrow : iv_row (bq_sr (bq_sr J 75 (upd (J 75) 7 (nI v))) 79 (gs_cp 59 (fun j => J 80 (59 * v + j)) (J 79))) 17 (fun j => I 80 (59 * v + j)) := ⟨g1.fr (fun x a b => eK x (by omega) (by omega)), hr0.2⟩
        exact hrow.row (fun j hj => by rw [gs_cp_lt hj, e80])
      · rw [bq_sr_n (by decide), bq_sr_s, pk_us]
      · rw [eK 25 (by decide) (by decide)]; exact g2
      · rw [eK 25 (by decide) (by decide)]; exact g3
      · have hi1 := hr (i + 1) (by omega)
        rw [eI 80 (by decide) (by decide) (by decide) (by decide), show ((l + 7) % 8 + 8 - i) % 8 = (l + 8 - (i + 1)) % 8 by omega, show v - 1 - i = v + 1 - 1 - (i + 1) by omega]
        exact hi1.fr (fun x a b => eI x (by omega) (by omega) (by omega) (by omega))
theorem op_keep (h : iv_P I m t p l q) (h1 : (¬ (0 ≤ b ∧ b ≤ 1) ∧ r1 = -1 ∧ J = I) ∨ (∃ i : Nat, i < 2 ∧ b = nI i ∧ r1 = I 79 0 ∧ gs_Mr J (60 + 4 * i) (I 79) ∧ J 68 = upd (I 68) i 1 ∧ ∀ x, x ≠ 68 → (x < 60 + 4 * i ∨ 60 + 4 * i + 3 < x) → J x = I x)) (h2 : (¬ (0 ≤ b ∧ b ≤ 1) ∧ r2 = -1 ∧ K = J) ∨ (∃ i : Nat, i < 2 ∧ b = nI i ∧ r2 = J 79 0 ∧ K = bq_sr (bq_sr J 81 (gs_co (59 * i) 59 (J 79) (J 81))) 82 (upd (J 82) i 1))) : r1 = r2 ∧ ∃ m t p l q, iv_P K m t p l q := by
  have in01 : ∀ i : Nat, i < 2 → b = nI i → (0 ≤ b ∧ b ≤ 1) := fun i hi e => by subst e; exact ⟨nI_pos' (by omega), nI_le (b := 1) (by omega) (by decide)⟩
  rcases h1 with ⟨a, rfl, rfl⟩ | ⟨i, hi, e, rfl, g1, g2, g3⟩
  · rcases h2 with ⟨_, rfl, rfl⟩ | ⟨i, hi, e, _⟩
    · exact ⟨rfl, _, _, _, _, _, h⟩
    · exact absurd (in01 i hi e) a
  · rcases h2 with ⟨a, _⟩ | ⟨i', hi', e', rfl, rfl⟩
    · exact absurd (in01 i hi e) a
    · have := op_k (by omega) (by omega) e e'
      subst this
      obtain ⟨h1, h2, h3, h4, h5, h6⟩ := h
      have e79 : J 79 = I 79 := g3 79 (by decide) (by omega)
      have e81 : J 81 = I 81 := g3 81 (by decide) (by omega)
      have e82 : J 82 = I 82 := g3 82 (by decide) (by omega)
      have eK : ∀ x, x ≠ 81 → x ≠ 82 → bq_sr (bq_sr J 81 (gs_co (59 * i) 59 (J 79) (J 81))) 82 (upd (J 82) i 1) x = J x := fun x a b => by rw [bq_sr_n b, bq_sr_n a]
      have eI : ∀ x, x ≠ 81 → x ≠ 82 → x ≠ 68 → (x < 60 + 4 * i ∨ 60 + 4 * i + 3 < x) → bq_sr (bq_sr J 81 (gs_co (59 * i) 59 (J 79) (J 81))) 82 (upd (J 82) i 1) x = I x := fun x a b c d => (eK x a b).trans (g3 x c d)
      have f : ∀ x, x ≠ 81 → x ≠ 82 → (x < 60 ∨ 68 < x) → bq_sr (bq_sr J 81 (gs_co (59 * i) 59 (J 79) (J 81))) 82 (upd (J 82) i 1) x = I x := fun x a b c => eI x a b (by omega) (by omega)
      refine ⟨by rw [e79], m, t, p, l, q, h1.fr (f 77 (by decide) (by decide) (by decide)) (fun x a b => f x (by omega) (by omega) (by omega)), ?_, h3.fr (by rw [f 75 (by decide) (by decide) (by decide)]) (f 80 (by decide) (by decide) (by decide)) (by rw [f 25 (by decide) (by decide) (by decide)]) (by rw [f 25 (by decide) (by decide) (by decide)]) (fun x a b => f x (by omega) (by omega) (by omega)), ?_, h5.fr (by rw [f 69 (by decide) (by decide) (by decide)]) (by rw [f 75 (by decide) (by decide) (by decide)]) (f 70 (by decide) (by decide) (by decide)) (f 71 (by decide) (by decide) (by decide)) (f 83 (by decide) (by decide) (by decide)), h6.fr (by rw [f 1 (by decide) (by decide) (by decide)]) (by rw [f 75 (by decide) (by decide) (by decide)]) (f 2 (by decide) (by decide) (by decide)) (f 76 (by decide) (by decide) (by decide))⟩
      · rw [f 79 (by decide) (by decide) (by decide)]
        exact h2.fr (fun x a b => f x (by omega) (by omega) (by omega))
      · intro i2 hi2
        obtain ⟨b1, b2⟩ := h4 i2 hi2
        rw [eK 68 (by decide) (by decide), bq_sr_s, bq_sr_n (a := 82) (b := 81) (by decide), bq_sr_s, g2, e82, e79, e81]
        by_cases ei : i2 = i
        · subst ei
          rw [pk_us, pk_us]
          refine ⟨rfl, fun _ => ?_⟩
          have hrow : iv_row (bq_sr (bq_sr J 81 (gs_co (59 * i2) 59 (J 79) (J 81))) 82 (upd (J 82) i2 1)) (60 + 4 * i2) (I 79) := ⟨g1.fr (fun x a b => eK x (by omega) (by omega)), h2.2⟩
          rw [e79, e81, e82] at hrow
          exact hrow.row (fun j hj => gs_co_in hj)
        · rw [pk_un ei, pk_un ei]
          refine ⟨b1, fun hn => ?_⟩
          have hrow := (b2 hn).fr (J := bq_sr (bq_sr J 81 (gs_co (59 * i) 59 (J 79) (J 81))) 82 (upd (J 82) i 1)) (fun x a b => eI x (by omega) (by omega) (by omega) (by omega))
          rw [e79, e81, e82] at hrow
          exact hrow.row (fun j hj => gs_co_out (by omega))
theorem op_back (h : iv_P I m t p l q) (h1 : (¬ (0 ≤ b ∧ b ≤ 1) ∧ r1 = -1 ∧ J = I) ∨ (∃ i : Nat, i < 2 ∧ b = nI i ∧ ((I 68 i = 0 ∧ r1 = -2 ∧ J = I) ∨ (¬ I 68 i = 0 ∧ r1 = I 81 (59 * i + 0) ∧ gs_Mr J 17 (fun j => I 81 (59 * i + j)) ∧ J 25 = upd (I 25) 1 0 ∧ ∀ x, (x < 17 ∨ 20 < x) → x ≠ 25 → J x = I x)))) (h2 : (¬ (0 ≤ b ∧ b ≤ 1) ∧ r2 = -1 ∧ K = J) ∨ (∃ i : Nat, i < 2 ∧ b = nI i ∧ ((J 82 i = 0 ∧ r2 = -2 ∧ K = J) ∨ (¬ J 82 i = 0 ∧ r2 = J 81 (59 * i) ∧ K = bq_sr (bq_sr J 79 (gs_cp 59 (fun j => J 81 (59 * i + j)) (J 79))) 75 (upd (J 75) 7 0))))) : r1 = r2 ∧ ∃ m t p l q, iv_P K m t p l q := by
  have in01 : ∀ i : Nat, i < 2 → b = nI i → (0 ≤ b ∧ b ≤ 1) := fun i hi e => by subst e; exact ⟨nI_pos' (by omega), nI_le (b := 1) (by omega) (by decide)⟩
  have hG := h.2.2.2.1
  rcases h1 with ⟨a, rfl, rfl⟩ | ⟨i, hi, e, ⟨a, rfl, rfl⟩ | ⟨a, rfl, g1, g2, g3⟩⟩
  · rcases h2 with ⟨_, rfl, rfl⟩ | ⟨i, hi, e, _⟩
    · exact ⟨rfl, _, _, _, _, _, h⟩
    · exact absurd (in01 i hi e) a
  · rw [(hG i hi).1] at a
    rcases h2 with ⟨a2, _⟩ | ⟨i', hi', e', ⟨a2, rfl, rfl⟩ | ⟨a2, _⟩⟩
    · exact absurd (in01 i hi e) a2
    · exact ⟨rfl, _, _, _, _, _, h⟩
    · have := op_k (by omega) (by omega) e e'
      subst this
      exact absurd a a2
  · rw [(hG i hi).1] at a
    have e79 : J 79 = I 79 := g3 79 (by decide) (by decide)
    have e81 : J 81 = I 81 := g3 81 (by decide) (by decide)
    have e82 : J 82 = I 82 := g3 82 (by decide) (by decide)
    rw [e82] at h2
    rcases h2 with ⟨a2, _⟩ | ⟨i', hi', e', ⟨a2, _⟩ | ⟨_, rfl, rfl⟩⟩
    · exact absurd (in01 i hi e) a2
    · have := op_k (by omega) (by omega) e e'
      subst this
      exact absurd a2 a
    · have := op_k (by omega) (by omega) e e'
      subst this
      have hrow0 := (hG i hi).2 a
      obtain ⟨h1, h2, ⟨⟨a1, a2, a3, a4, a5⟩, hr⟩, h4, h5, h6⟩ := h
      have eK : ∀ x, x ≠ 75 → x ≠ 79 → bq_sr (bq_sr J 79 (gs_cp 59 (fun j => J 81 (59 * i + j)) (J 79))) 75 (upd (J 75) 7 0) x = J x := fun x a b => by rw [bq_sr_n a, bq_sr_n b]
      have eI : ∀ x, x ≠ 75 → x ≠ 79 → (x < 17 ∨ 20 < x) → x ≠ 25 → bq_sr (bq_sr J 79 (gs_cp 59 (fun j => J 81 (59 * i + j)) (J 79))) 75 (upd (J 75) 7 0) x = I x := fun x a b c d => (eK x a b).trans (g3 x c d)
      have e75 : ∀ j, j ≠ 7 → bq_sr (bq_sr J 79 (gs_cp 59 (fun j => J 81 (59 * i + j)) (J 79))) 75 (upd (J 75) 7 0) 75 j = I 75 j := fun j hj => by rw [bq_sr_s, pk_un hj, g3 75 (by decide) (by decide)]
      refine ⟨by rw [e81]; rfl, m, t, 0, l, q, h1.fr (eI 77 (by decide) (by decide) (by decide) (by decide)) (fun x a b => eI x (by omega) (by omega) (by omega) (by omega)), ?_, ⟨⟨?_, by omega, ?_, ?_, a5⟩, fun i hi => by omega⟩, h4.fr (fun x a b => eI x (by omega) (by omega) (by omega) (by omega)) (eI 81 (by decide) (by decide) (by decide) (by decide)) (eI 82 (by decide) (by decide) (by decide) (by decide)), h5.fr (by rw [eI 69 (by decide) (by decide) (by decide) (by decide)]) (e75 11 (by decide)) (eI 70 (by decide) (by decide) (by decide) (by decide)) (eI 71 (by decide) (by decide) (by decide) (by decide)) (eI 83 (by decide) (by decide) (by decide) (by decide)), h6.fr (by rw [eI 1 (by decide) (by decide) (by decide) (by decide)]) (e75 2 (by decide)) (eI 2 (by decide) (by decide) (by decide) (by decide)) (eI 76 (by decide) (by decide) (by decide) (by decide))⟩
      · rw [bq_sr_n (a := 75) (b := 79) (by decide), bq_sr_s]
        have hrow : iv_row (bq_sr (bq_sr J 79 (gs_cp 59 (fun j => J 81 (59 * i + j)) (J 79))) 75 (upd (J 75) 7 0)) 17 (fun j => I 81 (59 * i + j)) := ⟨g1.fr (fun x a b => eK x (by omega) (by omega)), hrow0.2⟩
        exact hrow.row (fun j hj => by rw [gs_cp_lt hj, e81])
      · rw [bq_sr_s, pk_us]; rfl
      · rw [eK 25 (by decide) (by decide), g2, pk_us]; rfl
      · rw [eK 25 (by decide) (by decide), g2, pk_un (by decide)]; exact a4
theorem op_type (h : iv_P I m t p l q) (h1 : if 0 ≤ c ∧ c ≤ 255 then (if t = 200 then r1 = -3 ∧ J = I else r1 = nI (t + 1) ∧ J = bq_sr (bq_sr I 2 (upd (I 2) t c)) 1 (upd (I 1) 1 (nI (t + 1)))) else r1 = -1 ∧ J = I) (h2 : if 0 ≤ c ∧ c ≤ 255 then (if t = 200 then r2 = -3 ∧ K = J else r2 = nI (t + 1) ∧ K = bq_sr (bq_sr J 76 (upd (J 76) t c)) 75 (upd (J 75) 2 (nI (t + 1)))) else r2 = -1 ∧ K = J) : r1 = r2 ∧ ∃ m t p l q, iv_P K m t p l q := by
  by_cases hc : 0 ≤ c ∧ c ≤ 255
  · rw [if_pos hc] at h1 h2
    by_cases ht : t = 200
    · rw [if_pos ht] at h1 h2
      obtain ⟨rfl, rfl⟩ := h1
      obtain ⟨rfl, rfl⟩ := h2
      exact ⟨rfl, _, _, _, _, _, h⟩
    · rw [if_neg ht] at h1 h2
      obtain ⟨rfl, rfl⟩ := h1
      obtain ⟨rfl, rfl⟩ := h2
      obtain ⟨h1, h2, h3, h4, h5, ⟨⟨a1, a2, a3⟩, b1, b2⟩⟩ := h
      generalize hJ : bq_sr (bq_sr I 2 (upd (I 2) t c)) 1 (upd (I 1) 1 (nI (t + 1))) = J
      have eJ : ∀ x, x ≠ 1 → x ≠ 2 → J x = I x := fun x a b => by rw [← hJ, bq_sr_n a, bq_sr_n b]
      have eI : ∀ x, x ≠ 1 → x ≠ 2 → x ≠ 75 → x ≠ 76 → bq_sr (bq_sr J 76 (upd (J 76) t c)) 75 (upd (J 75) 2 (nI (t + 1))) x = I x := fun x a b c d => by rw [bq_sr_n c, bq_sr_n d]; exact eJ x a b
      have e75 : ∀ j, j ≠ 2 → bq_sr (bq_sr J 76 (upd (J 76) t c)) 75 (upd (J 75) 2 (nI (t + 1))) 75 j = I 75 j := fun j hj => by rw [bq_sr_s, pk_un hj, eJ 75 (by decide) (by decide)]
      refine ⟨rfl, m, t + 1, p, l, q, h1.fr (eI 77 (by decide) (by decide) (by decide) (by decide)) (fun x a b => eI x (by omega) (by omega) (by omega) (by omega)), ?_, h3.fr (e75 7 (by decide)) (eI 80 (by decide) (by decide) (by decide) (by decide)) (by rw [eI 25 (by decide) (by decide) (by decide) (by decide)]) (by rw [eI 25 (by decide) (by decide) (by decide) (by decide)]) (fun x a b => eI x (by omega) (by omega) (by omega) (by omega)), h4.fr (fun x a b => eI x (by omega) (by omega) (by omega) (by omega)) (eI 81 (by decide) (by decide) (by decide) (by decide)) (eI 82 (by decide) (by decide) (by decide) (by decide)), h5.fr (by rw [eI 69 (by decide) (by decide) (by decide) (by decide)]) (e75 11 (by decide)) (eI 70 (by decide) (by decide) (by decide) (by decide)) (eI 71 (by decide) (by decide) (by decide) (by decide)) (eI 83 (by decide) (by decide) (by decide) (by decide)), ⟨?_, ?_, by omega⟩, ?_, ?_⟩
      · rw [eI 79 (by decide) (by decide) (by decide) (by decide)]
        exact h2.fr (fun x a b => eI x (by omega) (by omega) (by omega) (by omega))
      · rw [bq_sr_n (by decide), bq_sr_n (by decide), ← hJ, bq_sr_s, pk_us]
      · rw [bq_sr_s, pk_us]
      · rw [bq_sr_n (a := 75) (b := 2) (by decide), bq_sr_n (a := 76) (b := 2) (by decide), bq_sr_n (a := 75) (b := 76) (by decide), bq_sr_s, eJ 76 (by decide) (by decide), ← b1, ← hJ, bq_sr_n (by decide), bq_sr_s]
      · intro j
        rw [bq_sr_n (a := 75) (b := 2) (by decide), bq_sr_n (a := 76) (b := 2) (by decide), ← hJ, bq_sr_n (by decide), bq_sr_s]
        by_cases e : j = t
        · rw [e, pk_us]; exact hc
        · rw [pk_un e]; exact b2 j
  · rw [if_neg hc] at h1 h2
    obtain ⟨rfl, rfl⟩ := h1
    obtain ⟨rfl, rfl⟩ := h2
    exact ⟨rfl, _, _, _, _, _, h⟩
theorem op_clear (h : iv_P I m t p l q) (hJ : J = bq_sr I 1 (upd (I 1) 1 0)) (hK : K = bq_sr J 75 (upd (J 75) 2 0)) : I 1 1 = J 75 2 ∧ ∃ m t p l q, iv_P K m t p l q := by
  obtain ⟨h1, h2, h3, h4, h5, ⟨⟨a1, a2, a3⟩, b1, b2⟩⟩ := h
  have eJ : ∀ x, x ≠ 1 → J x = I x := fun x a => by rw [hJ, bq_sr_n a]
  have eI : ∀ x, x ≠ 1 → x ≠ 75 → K x = I x := fun x a b => by rw [hK, bq_sr_n b]; exact eJ x a
  have e75 : ∀ j, j ≠ 2 → K 75 j = I 75 j := fun j hj => by rw [hK, bq_sr_s, pk_un hj, eJ 75 (by decide)]
  refine ⟨by rw [eJ 75 (by decide), a1, a2], m, 0, p, l, q, h1.fr (eI 77 (by decide) (by decide)) (fun x a b => eI x (by omega) (by omega)), ?_, h3.fr (e75 7 (by decide)) (eI 80 (by decide) (by decide)) (by rw [eI 25 (by decide) (by decide)]) (by rw [eI 25 (by decide) (by decide)]) (fun x a b => eI x (by omega) (by omega)), h4.fr (fun x a b => eI x (by omega) (by omega)) (eI 81 (by decide) (by decide)) (eI 82 (by decide) (by decide)), h5.fr (by rw [eI 69 (by decide) (by decide)]) (e75 11 (by decide)) (eI 70 (by decide) (by decide)) (eI 71 (by decide) (by decide)) (eI 83 (by decide) (by decide)), ⟨?_, ?_, by omega⟩, ?_⟩
  · rw [eI 79 (by decide) (by decide)]
    exact h2.fr (fun x a b => eI x (by omega) (by omega))
  · rw [hK, bq_sr_n (by decide), hJ, bq_sr_s, pk_us]; rfl
  · rw [hK, bq_sr_s, pk_us]; rfl
  · rw [eI 2 (by decide) (by decide), eI 76 (by decide) (by decide)]; exact ⟨b1, b2⟩
theorem op_forget (h : iv_P I m t p l q) (hJ : J = bq_sr I 69 (upd (I 69) 2 0)) (hK : K = bq_sr J 75 (upd (J 75) 11 0)) : I 69 2 = J 75 11 ∧ ∃ m t p l q, iv_P K m t p l q := by
  obtain ⟨h1, h2, h3, h4, ⟨⟨a1, a2, a3⟩, b⟩, h6⟩ := h
  have eJ : ∀ x, x ≠ 69 → J x = I x := fun x a => by rw [hJ, bq_sr_n a]
  have eI : ∀ x, x ≠ 69 → x ≠ 75 → K x = I x := fun x a b => by rw [hK, bq_sr_n b]; exact eJ x a
  have e75 : ∀ j, j ≠ 11 → K 75 j = I 75 j := fun j hj => by rw [hK, bq_sr_s, pk_un hj, eJ 75 (by decide)]
  refine ⟨by rw [eJ 75 (by decide), a1, a2], m, t, p, l, 0, h1.fr (eI 77 (by decide) (by decide)) (fun x a b => eI x (by omega) (by omega)), ?_, h3.fr (e75 7 (by decide)) (eI 80 (by decide) (by decide)) (by rw [eI 25 (by decide) (by decide)]) (by rw [eI 25 (by decide) (by decide)]) (fun x a b => eI x (by omega) (by omega)), h4.fr (fun x a b => eI x (by omega) (by omega)) (eI 81 (by decide) (by decide)) (eI 82 (by decide) (by decide)), ⟨⟨?_, ?_, by omega⟩, fun i hi => by omega⟩, h6.fr (by rw [eI 1 (by decide) (by decide)]) (e75 2 (by decide)) (eI 2 (by decide) (by decide)) (eI 76 (by decide) (by decide))⟩
  · rw [eI 79 (by decide) (by decide)]
    exact h2.fr (fun x a b => eI x (by omega) (by omega))
  · rw [hK, bq_sr_n (by decide), hJ, bq_sr_s, pk_us]; rfl
  · rw [hK, bq_sr_s, pk_us]; rfl
theorem op_measured {i v : Int32} (h : iv_P I m t p l q) (h1 : if (0 ≤ i ∧ i ≤ 40) ∧ 0 ≤ v ∧ v ≤ 99999 then (if q = 4 then r1 = -3 ∧ J = I else r1 = nI (q + 1) ∧ J = bq_sr (bq_sr (bq_sr I 70 (upd (I 70) q i)) 71 (upd (I 71) q v)) 69 (upd (I 69) 2 (nI (q + 1)))) else r1 = -1 ∧ J = I) (h2 : if (0 ≤ i ∧ i ≤ 40) ∧ 0 ≤ v ∧ v ≤ 99999 then (if q = 4 then r2 = -3 ∧ K = J else r2 = nI (q + 1) ∧ K = bq_sr (bq_sr J 83 (upd (upd (J 83) (2 * q) i) (2 * q + 1) v)) 75 (upd (J 75) 11 (nI (q + 1)))) else r2 = -1 ∧ K = J) : r1 = r2 ∧ ∃ m t p l q, iv_P K m t p l q := by
  by_cases hc : (0 ≤ i ∧ i ≤ 40) ∧ 0 ≤ v ∧ v ≤ 99999
  · rw [if_pos hc] at h1 h2
    by_cases ht : q = 4
    · rw [if_pos ht] at h1 h2
      obtain ⟨rfl, rfl⟩ := h1
      obtain ⟨rfl, rfl⟩ := h2
      exact ⟨rfl, _, _, _, _, _, h⟩
    · rw [if_neg ht] at h1 h2
      obtain ⟨rfl, hJ⟩ := h1
      obtain ⟨rfl, hK⟩ := h2
      obtain ⟨h1, h2, h3, h4, ⟨⟨a1, a2, a3⟩, b⟩, h6⟩ := h
      have eJ : ∀ x, x ≠ 69 → x ≠ 70 → x ≠ 71 → J x = I x := fun x a b c => by rw [hJ, bq_sr_n a, bq_sr_n c, bq_sr_n b]
      have eI : ∀ x, (x < 69 ∨ 71 < x) → x ≠ 75 → x ≠ 83 → K x = I x := fun x a b c => by rw [hK, bq_sr_n b, bq_sr_n c]; exact eJ x (by omega) (by omega) (by omega)
      have e75 : ∀ j, j ≠ 11 → K 75 j = I 75 j := fun j hj => by rw [hK, bq_sr_s, pk_un hj, eJ 75 (by decide) (by decide) (by decide)]
      have k70 : K 70 = upd (I 70) q i := by rw [hK, bq_sr_n (by decide), bq_sr_n (by decide), hJ, bq_sr_n (by decide), bq_sr_n (by decide), bq_sr_s]
      have k71 : K 71 = upd (I 71) q v := by rw [hK, bq_sr_n (by decide), bq_sr_n (by decide), hJ, bq_sr_n (by decide), bq_sr_s]
      have k83 : K 83 = upd (upd (I 83) (2 * q) i) (2 * q + 1) v := by rw [hK, bq_sr_n (by decide), bq_sr_s, eJ 83 (by decide) (by decide) (by decide)]
      refine ⟨rfl, m, t, p, l, q + 1, h1.fr (eI 77 (by decide) (by decide) (by decide)) (fun x a b => eI x (by omega) (by omega) (by omega)), ?_, h3.fr (e75 7 (by decide)) (eI 80 (by decide) (by decide) (by decide)) (by rw [eI 25 (by decide) (by decide) (by decide)]) (by rw [eI 25 (by decide) (by decide) (by decide)]) (fun x a b => eI x (by omega) (by omega) (by omega)), h4.fr (fun x a b => eI x (by omega) (by omega) (by omega)) (eI 81 (by decide) (by decide) (by decide)) (eI 82 (by decide) (by decide) (by decide)), ⟨⟨?_, ?_, by omega⟩, fun j hj => ?_⟩, h6.fr (by rw [eI 1 (by decide) (by decide) (by decide)]) (e75 2 (by decide)) (eI 2 (by decide) (by decide) (by decide)) (eI 76 (by decide) (by decide) (by decide))⟩
      · rw [eI 79 (by decide) (by decide) (by decide)]
        exact h2.fr (fun x a b => eI x (by omega) (by omega) (by omega))
      · rw [hK, bq_sr_n (by decide), bq_sr_n (by decide), hJ, bq_sr_s, pk_us]
      · rw [hK, bq_sr_s, pk_us]
      · rw [k70, k71, k83]
        by_cases e : j = q
        · rw [e, pk_us, pk_us, pk_un (show 2 * q ≠ 2 * q + 1 by omega), pk_us, pk_us]; exact ⟨rfl, rfl⟩
        · rw [pk_un e, pk_un e, pk_un (show 2 * j ≠ 2 * q + 1 by omega), pk_un (show 2 * j ≠ 2 * q by omega), pk_un (show 2 * j + 1 ≠ 2 * q + 1 by omega), pk_un (show 2 * j + 1 ≠ 2 * q by omega)]
          exact b j (by omega)
  · rw [if_neg hc] at h1 h2
    obtain ⟨rfl, rfl⟩ := h1
    obtain ⟨rfl, rfl⟩ := h2
    exact ⟨rfl, _, _, _, _, _, h⟩
theorem op_cellar {X : Nat ⊕ (Nat → Int32)} (h : iv_P I m t p l q) (h1 : match X with | .inl s => r1 = -10 - nI s ∧ cs_D I J | .inr D => r1 = D 6 ∧ ∃ m, rd_ok D m ∧ cl_E I J D m) (h2 : match (generalizing := false) X with | .inl s => r2 = -10 - nI s ∧ (∀ j, (j < 12 ∨ 15 < j) → K 75 j = J 75 j) ∧ (∀ x, x ≠ 75 → x ≠ 78 → K x = J x) | .inr D => r2 = D 6 ∧ ∃ m, rd_ok D m ∧ gs_CEL J K D m) : r1 = r2 ∧ ∃ m t p l q, iv_P K m t p l q := by
  obtain ⟨g1, g2, g3, g4, g5, g6⟩ := h
  cases X with
  | inl s =>
    obtain ⟨rfl, hD⟩ := h1
    obtain ⟨rfl, k1, k2⟩ := h2
    have eI : ∀ x, x ≠ 3 → x ≠ 4 → (x < 11 ∨ 16 < x) → x ≠ 75 → x ≠ 78 → K x = I x := fun x a b c d e => (k2 x d e).trans (hD x a b c)
    have e75 : ∀ j, (j < 12 ∨ 15 < j) → K 75 j = I 75 j := fun j hj => (k1 j hj).trans (by rw [hD 75 (by decide) (by decide) (by decide)])
    refine ⟨rfl, m, t, p, l, q, g1.fr (eI 77 (by decide) (by decide) (by decide) (by decide) (by decide)) (fun x a b => eI x (by omega) (by omega) (by omega) (by omega) (by omega)), ?_, g3.fr (e75 7 (by decide)) (eI 80 (by decide) (by decide) (by decide) (by decide) (by decide)) (by rw [eI 25 (by decide) (by decide) (by decide) (by decide) (by decide)]) (by rw [eI 25 (by decide) (by decide) (by decide) (by decide) (by decide)]) (fun x a b => eI x (by omega) (by omega) (by omega) (by omega) (by omega)), g4.fr (fun x a b => eI x (by omega) (by omega) (by omega) (by omega) (by omega)) (eI 81 (by decide) (by decide) (by decide) (by decide) (by decide)) (eI 82 (by decide) (by decide) (by decide) (by decide) (by decide)), g5.fr (by rw [eI 69 (by decide) (by decide) (by decide) (by decide) (by decide)]) (e75 11 (by decide)) (eI 70 (by decide) (by decide) (by decide) (by decide) (by decide)) (eI 71 (by decide) (by decide) (by decide) (by decide) (by decide)) (eI 83 (by decide) (by decide) (by decide) (by decide) (by decide)), g6.fr (by rw [eI 1 (by decide) (by decide) (by decide) (by decide) (by decide)]) (e75 2 (by decide)) (eI 2 (by decide) (by decide) (by decide) (by decide) (by decide)) (eI 76 (by decide) (by decide) (by decide) (by decide) (by decide))⟩
    rw [eI 79 (by decide) (by decide) (by decide) (by decide) (by decide)]
    exact g2.fr (fun x a b => eI x (by omega) (by omega) (by omega) (by omega) (by omega))
  | inr D =>
    obtain ⟨rfl, m1, hok, ⟨c1, c2, c3, c4⟩, ⟨d1, d2, d3, d4, d5⟩, cx⟩ := h1
    obtain ⟨rfl, m2, hok2, ⟨k77, k79, k0, k1, k7, k11, k2⟩, kx⟩ := h2
    have hm : m2 = m1 := (nI_eq (by have := hok2.2.1.2; omega) (by have := hok.2.1.2; omega)).mp (hok2.2.1.1.symm.trans hok.2.1.1)
    subst hm
    have hm8 := hok.2.1.2
    have hT : ∀ j, j < 32 → K 77 j = D j := fun j hj => by rw [k77]; exact gs_cp_lt hj
    have eK : ∀ x, x < 75 → K x = J x := fun x hx => kx x (by omega) (by omega) (by omega) (by omega) (by omega)
    obtain ⟨ok1, ok2⟩ := cd_ok hok
    have hB : cd_B (K 77) m2 = cd_B D m2 := cd_B_cg hm8 hT
    refine ⟨rfl, m2, 0, 0, l, 0, ⟨hok.cg hT, ?_, ?_, ?_⟩, ?_, ⟨⟨k7, by omega, ?_, ?_, g3.1.2.2.2.2⟩, fun i hi => by omega⟩, ?_, ⟨⟨?_, k11, by omega⟩, fun i hi => by omega⟩, ⟨?_, k2, by omega⟩, ?_, ?_⟩
    · intro j hj
      rw [eK 6 (by decide), c1 j hj, hT j (by omega)]
    · rw [eK 5 (by decide)]; exact c2
    · rw [hB]
      exact c3.fr (fun x a b => eK x (by omega))
    · have hrow : iv_row K 17 (cd_B D m2) := ⟨c4.fr (fun x a b => eK x (by omega)), ok1, by rw [ok2]; decide, by rw [ok2]; decide⟩
      rw [k79]
      exact hrow.row (cd_beg (fun j hj => gs_cp_lt hj) hm8)
    · rw [eK 25 (by decide), d3, pk_us]; rfl
    · rw [eK 25 (by decide), d3, pk_un (by decide)]; exact g3.1.2.2.2.1
    · intro i hi
      have e0 : K 82 i = 0 := by
        rcases (show i = 0 ∨ i = 1 by omega) with rfl | rfl
        · exact k0
        · exact k1
      refine ⟨?_, fun hn => absurd e0 hn⟩
      rw [e0, eK 68 (by decide)]
      rcases (show i = 0 ∨ i = 1 by omega) with rfl | rfl
      · exact d4
      · exact d5
    · rw [eK 69 (by decide), d2, pk_us]; rfl
    · rw [eK 1 (by decide), d1, pk_us]; rfl
    · rw [eK 2 (by decide), kx 76 (by decide) (by decide) (by decide) (by decide) (by decide), cx 2 (by decide) (by decide) (by decide) (by decide) (by decide), cx 76 (by decide) (by decide) (by decide) (by decide) (by decide)]
      exact g6.2.1
    · rw [eK 2 (by decide), cx 2 (by decide) (by decide) (by decide) (by decide) (by decide)]
      exact g6.2.2
end Ops
theorem gs_odds_u {S : Nat → Int32} {b p m k c x y : Int32} (h1 : gs_odds S b p m k c x) (h2 : gs_odds S b p m k c y) : x = y := by
  rcases h1 with ⟨a, rfl⟩ | ⟨q, ⟨q1, q2, q3, q4⟩, a⟩
  · rcases h2 with ⟨_, rfl⟩ | ⟨q, ⟨q1, q2, q3, q4⟩, _⟩
    · rfl
    · exact absurd ⟨op_th q1 q2 q3, q4⟩ a
  · rcases h2 with ⟨a2, _⟩ | ⟨q', ⟨q1', q2', q3', q4'⟩, a2⟩
    · exact absurd ⟨op_th q1 q2 q3, q4⟩ a2
    · have := op_k q1 q1' q2 q2'
      subst this
      rcases a with ⟨b1, rfl⟩ | ⟨b1, rfl⟩ <;> rcases a2 with ⟨b2, rfl⟩ | ⟨b2, rfl⟩
      · rfl
      · exact absurd b1 b2
      · exact absurd b2 b1
      · rfl
