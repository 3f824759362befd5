set_option maxHeartbeats 2000000 in
set_option maxRecDepth 100000 in
theorem lw_c0 {z b N i : Nat} {xs : Nat → Int32} {nm : String} {A : bq_A} {I : bq_IR} {L : bq_LR} (GS : bq_CxS b N xs cL_law RL 4 z room_1 nm A) (hN : N ≤ 3072) (hi : i + 6 ≤ N) (hv : INV I L) (next : ∀ (J : bq_IR) (L' : bq_LR), INV J L' → A 85 1785 934 [some (.ref b), some (.ref (z + 0)), some (.ref (z + 75)), some (.int (nI i))] [] 85 (bq_Rf z) J L') : A 85 1785 176 [some (.ref b), some (.ref (z + 0)), some (.ref (z + 75)), some (.int (nI i))] [] 85 (bq_Rf z) I L := by
  obtain ⟨⟨m, t, p, l, q, hP⟩, hL⟩ := hv
  have G := GS.cx
  have hC := hP.cs
  obtain ⟨a1, a2, a3, a4, a5⟩ := hP.2.2.1.1
  refine bq_aload_n (q := 177) G rfl dL_law_176 rfl ?_
  refine bq_aload_n (q := 178) G rfl dL_law_177 rfl ?_
  refine bq_iload_n (q := 179) G rfl dL_law_178 rfl ?_
  refine bq_iconst (q := 180) (v := 1) G (by decide) dL_law_179 rfl ?_
  refine bq_iadd (q := 181) G dL_law_180 rfl ?_
  refine bq_sld (q := 182) (k := i + 1) GS dL_law_181 rfl (bq_ixa rfl rfl) (by omega) (by omega) ?_
  refine bq_callvI (q := 185) G dL_law_182 rfl cl_L_13 (c_X8_type (t := t) hP.2.2.2.2.2.1.1 hP.2.2.2.2.2.1.2.2) rfl ⟨Nat.le_of_ble_eq_true rfl, rfl⟩ rfl ⟨Nat.le_of_ble_eq_true rfl, Nat.le_of_ble_eq_true rfl⟩ (Nat.le_of_ble_eq_true rfl) ⟨Nat.le_of_ble_eq_true rfl, Nat.le_of_ble_eq_true rfl⟩ (fun r1 J L1 h1 => ?_)
  have e75 : J 75 = I 75 := by
    have h := h1.1
    split at h
    · split at h
      · rw [h.2]
      · rw [h.2, bq_sr_n (by decide), bq_sr_n (by decide)]
    · rw [h.2]
  refine bq_aload_n (q := 186) G rfl dL_law_185 rfl ?_
  refine bq_aload_n (q := 187) G rfl dL_law_186 rfl ?_
  refine bq_iload_n (q := 188) G rfl dL_law_187 rfl ?_
  refine bq_iconst (q := 189) (v := 1) G (by decide) dL_law_188 rfl ?_
  refine bq_iadd (q := 190) G dL_law_189 rfl ?_
  refine bq_sld (q := 191) (k := i + 1) GS dL_law_190 rfl (bq_ixa rfl rfl) (by omega) (by omega) ?_
  refine bq_callvI (q := 194) G dL_law_191 rfl cl_L_17 (c_X9_type (t := t) (by rw [e75]; exact hP.2.2.2.2.2.1.2.1) hP.2.2.2.2.2.1.2.2) rfl ⟨Nat.le_of_ble_eq_true rfl, rfl⟩ rfl ⟨Nat.le_of_ble_eq_true rfl, Nat.le_of_ble_eq_true rfl⟩ (Nat.le_of_ble_eq_true rfl) ⟨Nat.le_of_ble_eq_true rfl, Nat.le_of_ble_eq_true rfl⟩ (fun r2 K L2 h2 => ?_)
  obtain ⟨he, m1, t1, p1, l1, q1, hP1⟩ := op_type hP h1.1 h2.1
  have hI : INV K L2 := ⟨⟨m1, t1, p1, l1, q1, hP1⟩, by rw [h2.2, h1.2]; exact hL⟩
  refine bq_icmp_eq_t (t := 934) G dL_law_194 (by decide) he ?_
  exact next _ _ hI
set_option maxHeartbeats 2000000 in
set_option maxRecDepth 100000 in
theorem lw_c1 {z b N i : Nat} {xs : Nat → Int32} {nm : String} {A : bq_A} {I : bq_IR} {L : bq_LR} (GS : bq_CxS b N xs cL_law RL 4 z room_1 nm A) (hN : N ≤ 3072) (hi : i + 6 ≤ N) (hv : INV I L) (next : ∀ (J : bq_IR) (L' : bq_LR), INV J L' → A 85 1785 934 [some (.ref b), some (.ref (z + 0)), some (.ref (z + 75)), some (.int (nI i))] [] 85 (bq_Rf z) J L') : A 85 1785 199 [some (.ref b), some (.ref (z + 0)), some (.ref (z + 75)), some (.int (nI i))] [] 85 (bq_Rf z) I L := by
  obtain ⟨⟨m, t, p, l, q, hP⟩, hL⟩ := hv
  have G := GS.cx
  have hC := hP.cs
  obtain ⟨a1, a2, a3, a4, a5⟩ := hP.2.2.1.1
  refine bq_aload_n (q := 200) G rfl dL_law_199 rfl ?_
  refine bq_callv (q := 203) G dL_law_200 rfl cl_L_18 (c_X8_clear) rfl ⟨Nat.le_of_ble_eq_true rfl, rfl⟩ rfl ⟨Nat.le_of_ble_eq_true rfl, Nat.le_of_ble_eq_true rfl⟩ (Nat.le_of_ble_eq_true rfl) ⟨Nat.le_of_ble_eq_true rfl, Nat.le_of_ble_eq_true rfl⟩ rfl ?_
  refine bq_aload_n (q := 204) G rfl dL_law_203 rfl ?_
  refine bq_callv (q := 207) G dL_law_204 rfl cl_L_22 (c_X9_clear) rfl ⟨Nat.le_of_ble_eq_true rfl, rfl⟩ rfl ⟨Nat.le_of_ble_eq_true rfl, Nat.le_of_ble_eq_true rfl⟩ (Nat.le_of_ble_eq_true rfl) ⟨Nat.le_of_ble_eq_true rfl, Nat.le_of_ble_eq_true rfl⟩ rfl ?_
  obtain ⟨he, m1, t1, p1, l1, q1, hP1⟩ := op_clear hP rfl rfl
  have hI : INV _ L := ⟨⟨m1, t1, p1, l1, q1, hP1⟩, hL⟩
  refine bq_icmp_eq_t (t := 934) G dL_law_207 (by decide) he ?_
  exact next _ _ hI
set_option maxHeartbeats 2000000 in
set_option maxRecDepth 100000 in
theorem lw_c2 {z b N i : Nat} {xs : Nat → Int32} {nm : String} {A : bq_A} {I : bq_IR} {L : bq_LR} (GS : bq_CxS b N xs cL_law RL 4 z room_1 nm A) (hN : N ≤ 3072) (hi : i + 6 ≤ N) (hv : INV I L) (next : ∀ (J : bq_IR) (L' : bq_LR), INV J L' → A 85 1785 934 [some (.ref b), some (.ref (z + 0)), some (.ref (z + 75)), some (.int (nI i))] [] 85 (bq_Rf z) J L') : A 85 1785 212 [some (.ref b), some (.ref (z + 0)), some (.ref (z + 75)), some (.int (nI i))] [] 85 (bq_Rf z) I L := by
  obtain ⟨⟨m, t, p, l, q, hP⟩, hL⟩ := hv
  have G := GS.cx
  have hC := hP.cs
  obtain ⟨a1, a2, a3, a4, a5⟩ := hP.2.2.1.1
  refine bq_aload_n (q := 213) G rfl dL_law_212 rfl ?_
  refine bq_callvI (q := 216) G dL_law_213 rfl cl_L_23 (c_X8_cellar (t := t) (G0 := I 78) hP.2.2.2.2.2.1.1 hP.2.2.2.2.2.1.2.2 hP.2.2.2.2.2.2.2) rfl ⟨Nat.le_of_ble_eq_true rfl, rfl⟩ rfl ⟨Nat.le_of_ble_eq_true rfl, Nat.le_of_ble_eq_true rfl⟩ (Nat.le_of_ble_eq_true rfl) ⟨Nat.le_of_ble_eq_true rfl, Nat.le_of_ble_eq_true rfl⟩ (fun r1 J L1 h1 => ?_)
  have hf : ∀ x, 75 ≤ x → J x = I x := by
    have h := h1.1
    revert h
    cases rd_all t (I 2) (t + 1) 0 0 (rd_D0 (I 78)) with
    | inl s => exact fun h x hx => h.2 x (by omega) (by omega) (by omega)
    | inr D =>
      rintro ⟨_, m, _, h⟩ x hx
      exact h.2.2 x (by omega) (by omega) (by omega) (by omega) (by omega)
  refine bq_aload_n (q := 217) G rfl dL_law_216 rfl ?_
  refine bq_callvI (q := 220) G dL_law_217 rfl cl_L_26 (c_X9_cellar (t := t) (by rw [hf 75 (by decide)]; exact hP.2.2.2.2.2.1.2.1) hP.2.2.2.2.2.1.2.2) rfl ⟨Nat.le_of_ble_eq_true rfl, rfl⟩ rfl ⟨Nat.le_of_ble_eq_true rfl, Nat.le_of_ble_eq_true rfl⟩ (Nat.le_of_ble_eq_true rfl) ⟨Nat.le_of_ble_eq_true rfl, Nat.le_of_ble_eq_true rfl⟩ (fun r2 K L2 h2 => ?_)
  have h3 := h2.1
  rw [hf 76 (by decide), ← hP.2.2.2.2.2.2.1, hf 78 (by decide)] at h3
  obtain ⟨he, m1, t1, p1, l1, q1, hP1⟩ := op_cellar hP h1.1 h3
  have hI : INV K L2 := ⟨⟨m1, t1, p1, l1, q1, hP1⟩, by rw [h2.2, h1.2]; exact hL⟩
  refine bq_icmp_eq_t (t := 934) G dL_law_220 (by decide) he ?_
  exact next _ _ hI
set_option maxHeartbeats 2000000 in
set_option maxRecDepth 100000 in
theorem lw_c3 {z b N i : Nat} {xs : Nat → Int32} {nm : String} {A : bq_A} {I : bq_IR} {L : bq_LR} (GS : bq_CxS b N xs cL_law RL 4 z room_1 nm A) (hN : N ≤ 3072) (hi : i + 6 ≤ N) (hv : INV I L) (next : ∀ (J : bq_IR) (L' : bq_LR), INV J L' → A 85 1785 934 [some (.ref b), some (.ref (z + 0)), some (.ref (z + 75)), some (.int (nI i))] [] 85 (bq_Rf z) J L') : A 85 1785 225 [some (.ref b), some (.ref (z + 0)), some (.ref (z + 75)), some (.int (nI i))] [] 85 (bq_Rf z) I L := by
  obtain ⟨⟨m, t, p, l, q, hP⟩, hL⟩ := hv
  have G := GS.cx
  have hC := hP.cs
  obtain ⟨a1, a2, a3, a4, a5⟩ := hP.2.2.1.1
  refine bq_aload_n (q := 226) G rfl dL_law_225 rfl ?_
  refine bq_aload_n (q := 227) G rfl dL_law_226 rfl ?_
  refine bq_iload_n (q := 228) G rfl dL_law_227 rfl ?_
  refine bq_iconst (q := 229) (v := 1) G (by decide) dL_law_228 rfl ?_
  refine bq_iadd (q := 230) G dL_law_229 rfl ?_
  refine bq_sld (q := 231) (k := i + 1) GS dL_law_230 rfl (bq_ixa rfl rfl) (by omega) (by omega) ?_
  refine bq_aload_n (q := 232) G rfl dL_law_231 rfl ?_
  refine bq_iload_n (q := 233) G rfl dL_law_232 rfl ?_
  refine bq_iconst (q := 234) (v := 2) G (by decide) dL_law_233 rfl ?_
  refine bq_iadd (q := 235) G dL_law_234 rfl ?_
  refine bq_sld (q := 236) (k := i + 2) GS dL_law_235 rfl (bq_ixa rfl rfl) (by omega) (by omega) ?_
  refine bq_callv (q := 239) G dL_law_236 rfl cl_L_27 (c_X8_broom (T := I 77) (S := I 79) hC) rfl ⟨Nat.le_of_ble_eq_true rfl, rfl⟩ rfl ⟨Nat.le_of_ble_eq_true rfl, Nat.le_of_ble_eq_true rfl⟩ (Nat.le_of_ble_eq_true rfl) ⟨Nat.le_of_ble_eq_true rfl, Nat.le_of_ble_eq_true rfl⟩ rfl ?_
  refine bq_aload_n (q := 240) G rfl dL_law_239 rfl ?_
  refine bq_aload_n (q := 241) G rfl dL_law_240 rfl ?_
  refine bq_iload_n (q := 242) G rfl dL_law_241 rfl ?_
  refine bq_iconst (q := 243) (v := 1) G (by decide) dL_law_242 rfl ?_
  refine bq_iadd (q := 244) G dL_law_243 rfl ?_
  refine bq_sld (q := 245) (k := i + 1) GS dL_law_244 rfl (bq_ixa rfl rfl) (by omega) (by omega) ?_
  refine bq_aload_n (q := 246) G rfl dL_law_245 rfl ?_
  refine bq_iload_n (q := 247) G rfl dL_law_246 rfl ?_
  refine bq_iconst (q := 248) (v := 2) G (by decide) dL_law_247 rfl ?_
  refine bq_iadd (q := 249) G dL_law_248 rfl ?_
  refine bq_sld (q := 250) (k := i + 2) GS dL_law_249 rfl (bq_ixa rfl rfl) (by omega) (by omega) ?_
  refine bq_callv (q := 253) G dL_law_250 rfl cl_L_31 (c_X9_broom) rfl ⟨Nat.le_of_ble_eq_true rfl, rfl⟩ rfl ⟨Nat.le_of_ble_eq_true rfl, Nat.le_of_ble_eq_true rfl⟩ (Nat.le_of_ble_eq_true rfl) ⟨Nat.le_of_ble_eq_true rfl, Nat.le_of_ble_eq_true rfl⟩ rfl ?_
  have hI : INV I L := ⟨⟨m, t, p, l, q, hP⟩, hL⟩
  refine bq_icmp_eq_t (t := 934) G dL_law_253 (by decide) rfl ?_
  exact next _ _ hI
set_option maxHeartbeats 2000000 in
set_option maxRecDepth 100000 in
theorem lw_c4 {z b N i : Nat} {xs : Nat → Int32} {nm : String} {A : bq_A} {I : bq_IR} {L : bq_LR} (GS : bq_CxS b N xs cL_law RL 4 z room_1 nm A) (hN : N ≤ 3072) (hi : i + 6 ≤ N) (hv : INV I L) (next : ∀ (J : bq_IR) (L' : bq_LR), INV J L' → A 85 1785 934 [some (.ref b), some (.ref (z + 0)), some (.ref (z + 75)), some (.int (nI i))] [] 85 (bq_Rf z) J L') : A 85 1785 258 [some (.ref b), some (.ref (z + 0)), some (.ref (z + 75)), some (.int (nI i))] [] 85 (bq_Rf z) I L := by
  obtain ⟨⟨m, t, p, l, q, hP⟩, hL⟩ := hv
  have G := GS.cx
  have hC := hP.cs
  obtain ⟨a1, a2, a3, a4, a5⟩ := hP.2.2.1.1
  refine bq_aload_n (q := 259) G rfl dL_law_258 rfl ?_
  refine bq_aload_n (q := 260) G rfl dL_law_259 rfl ?_
  refine bq_iload_n (q := 261) G rfl dL_law_260 rfl ?_
  refine bq_iconst (q := 262) (v := 1) G (by decide) dL_law_261 rfl ?_
  refine bq_iadd (q := 263) G dL_law_262 rfl ?_
  refine bq_sld (q := 264) (k := i + 1) GS dL_law_263 rfl (bq_ixa rfl rfl) (by omega) (by omega) ?_
  refine bq_callv (q := 267) G dL_law_264 rfl cl_L_32 (c_X8_now (T := I 77) (S := I 79) hC) rfl ⟨Nat.le_of_ble_eq_true rfl, rfl⟩ rfl ⟨Nat.le_of_ble_eq_true rfl, Nat.le_of_ble_eq_true rfl⟩ (Nat.le_of_ble_eq_true rfl) ⟨Nat.le_of_ble_eq_true rfl, Nat.le_of_ble_eq_true rfl⟩ rfl ?_
  refine bq_aload_n (q := 268) G rfl dL_law_267 rfl ?_
  refine bq_aload_n (q := 269) G rfl dL_law_268 rfl ?_
  refine bq_iload_n (q := 270) G rfl dL_law_269 rfl ?_
  refine bq_iconst (q := 271) (v := 1) G (by decide) dL_law_270 rfl ?_
  refine bq_iadd (q := 272) G dL_law_271 rfl ?_
  refine bq_sld (q := 273) (k := i + 1) GS dL_law_272 rfl (bq_ixa rfl rfl) (by omega) (by omega) ?_
  refine bq_callv (q := 276) G dL_law_273 rfl cl_L_35 (c_X9_now hP.ar) rfl ⟨Nat.le_of_ble_eq_true rfl, rfl⟩ rfl ⟨Nat.le_of_ble_eq_true rfl, Nat.le_of_ble_eq_true rfl⟩ (Nat.le_of_ble_eq_true rfl) ⟨Nat.le_of_ble_eq_true rfl, Nat.le_of_ble_eq_true rfl⟩ rfl ?_
  have hI : INV I L := ⟨⟨m, t, p, l, q, hP⟩, hL⟩
  refine bq_icmp_eq_t (t := 934) G dL_law_276 (by decide) (by rw [a1, a3, hP.2.1.1.1.2.2.2.2.2.orb]) ?_
  exact next _ _ hI
set_option maxHeartbeats 2000000 in
set_option maxRecDepth 100000 in
theorem lw_c5 {z b N i : Nat} {xs : Nat → Int32} {nm : String} {A : bq_A} {I : bq_IR} {L : bq_LR} (GS : bq_CxS b N xs cL_law RL 4 z room_1 nm A) (hN : N ≤ 3072) (hi : i + 6 ≤ N) (hv : INV I L) (next : ∀ (J : bq_IR) (L' : bq_LR), INV J L' → A 85 1785 934 [some (.ref b), some (.ref (z + 0)), some (.ref (z + 75)), some (.int (nI i))] [] 85 (bq_Rf z) J L') : A 85 1785 281 [some (.ref b), some (.ref (z + 0)), some (.ref (z + 75)), some (.int (nI i))] [] 85 (bq_Rf z) I L := by
  obtain ⟨⟨m, t, p, l, q, hP⟩, hL⟩ := hv
  have G := GS.cx
  have hC := hP.cs
  obtain ⟨a1, a2, a3, a4, a5⟩ := hP.2.2.1.1
  refine bq_aload_n (q := 282) G rfl dL_law_281 rfl ?_
  refine bq_callvI (q := 285) G dL_law_282 rfl cl_L_36 (c_X8_minute (T := I 77) (S := I 79) (p := p) (l := l) hC hP.2.1.2.2 a3 a2 a4 a5) rfl ⟨Nat.le_of_ble_eq_true rfl, rfl⟩ rfl ⟨Nat.le_of_ble_eq_true rfl, Nat.le_of_ble_eq_true rfl⟩ (Nat.le_of_ble_eq_true rfl) ⟨Nat.le_of_ble_eq_true rfl, Nat.le_of_ble_eq_true rfl⟩ (fun r1 J L1 h1 => ?_)
  have hf : ∀ x, 75 ≤ x → J x = I x := by
    rcases h1.1 with ⟨_, _, rfl⟩ | ⟨_, _, hD⟩
    · exact fun _ _ => rfl
    · exact fun x hx => hD.hi hx
  refine bq_aload_n (q := 286) G rfl dL_law_285 rfl ?_
  refine bq_callvI (q := 289) G dL_law_286 rfl cl_L_39 (c_X9_minute (p := p) (by rw [hf 77 (by decide)]; exact hP.ar) (by rw [hf 75 (by decide)]; exact a1) a2) rfl ⟨Nat.le_of_ble_eq_true rfl, rfl⟩ rfl ⟨Nat.le_of_ble_eq_true rfl, Nat.le_of_ble_eq_true rfl⟩ (Nat.le_of_ble_eq_true rfl) ⟨Nat.le_of_ble_eq_true rfl, Nat.le_of_ble_eq_true rfl⟩ (fun r2 K L2 h2 => ?_)
  obtain ⟨he, m1, t1, p1, l1, q1, hP1⟩ := op_minute hP h1.1 h2.1
  have hI : INV K L2 := ⟨⟨m1, t1, p1, l1, q1, hP1⟩, by rw [h2.2, h1.2]; exact hL⟩
  refine bq_icmp_eq_t (t := 934) G dL_law_289 (by decide) he ?_
  exact next _ _ hI
set_option maxHeartbeats 2000000 in
set_option maxRecDepth 100000 in
theorem lw_c6 {z b N i : Nat} {xs : Nat → Int32} {nm : String} {A : bq_A} {I : bq_IR} {L : bq_LR} (GS : bq_CxS b N xs cL_law RL 4 z room_1 nm A) (hN : N ≤ 3072) (hi : i + 6 ≤ N) (hv : INV I L) (next : ∀ (J : bq_IR) (L' : bq_LR), INV J L' → A 85 1785 934 [some (.ref b), some (.ref (z + 0)), some (.ref (z + 75)), some (.int (nI i))] [] 85 (bq_Rf z) J L') : A 85 1785 294 [some (.ref b), some (.ref (z + 0)), some (.ref (z + 75)), some (.int (nI i))] [] 85 (bq_Rf z) I L := by
  obtain ⟨⟨m, t, p, l, q, hP⟩, hL⟩ := hv
  have G := GS.cx
  have hC := hP.cs
  obtain ⟨a1, a2, a3, a4, a5⟩ := hP.2.2.1.1
  refine bq_aload_n (q := 295) G rfl dL_law_294 rfl ?_
  refine bq_aload_n (q := 296) G rfl dL_law_295 rfl ?_
  refine bq_iload_n (q := 297) G rfl dL_law_296 rfl ?_
  refine bq_iconst (q := 298) (v := 1) G (by decide) dL_law_297 rfl ?_
  refine bq_iadd (q := 299) G dL_law_298 rfl ?_
  refine bq_sld (q := 300) (k := i + 1) GS dL_law_299 rfl (bq_ixa rfl rfl) (by omega) (by omega) ?_
  refine bq_callvI (q := 303) G dL_law_300 rfl cl_L_40 (c_X8_splits (T := I 77) (S := I 79) (p := p) (l := l) hC a3 a2 a4 a5) rfl ⟨Nat.le_of_ble_eq_true rfl, rfl⟩ rfl ⟨Nat.le_of_ble_eq_true rfl, Nat.le_of_ble_eq_true rfl⟩ (Nat.le_of_ble_eq_true rfl) ⟨Nat.le_of_ble_eq_true rfl, Nat.le_of_ble_eq_true rfl⟩ (fun r1 J L1 h1 => ?_)
  have hf : ∀ x, 75 ≤ x → J x = I x := by
    rcases h1.1 with ⟨_, _, rfl⟩ | ⟨k, _, _, _, ⟨_, _, rfl⟩ | ⟨_, _, hD⟩⟩
    · exact fun _ _ => rfl
    · exact fun _ _ => rfl
    · exact fun x hx => hD.hi hx
  refine bq_aload_n (q := 304) G rfl dL_law_303 rfl ?_
  refine bq_aload_n (q := 305) G rfl dL_law_304 rfl ?_
  refine bq_iload_n (q := 306) G rfl dL_law_305 rfl ?_
  refine bq_iconst (q := 307) (v := 1) G (by decide) dL_law_306 rfl ?_
  refine bq_iadd (q := 308) G dL_law_307 rfl ?_
  refine bq_sld (q := 309) (k := i + 1) GS dL_law_308 rfl (bq_ixa rfl rfl) (by omega) (by omega) ?_
  refine bq_callvI (q := 312) G dL_law_309 rfl cl_L_43 (c_X9_splits (p := p) (by rw [hf 75 (by decide)]; exact a1) a2) rfl ⟨Nat.le_of_ble_eq_true rfl, rfl⟩ rfl ⟨Nat.le_of_ble_eq_true rfl, Nat.le_of_ble_eq_true rfl⟩ (Nat.le_of_ble_eq_true rfl) ⟨Nat.le_of_ble_eq_true rfl, Nat.le_of_ble_eq_true rfl⟩ (fun r2 K L2 h2 => ?_)
  obtain ⟨he, m1, t1, p1, l1, q1, hP1⟩ := op_splits hP h1.1 h2.1
  have hI : INV K L2 := ⟨⟨m1, t1, p1, l1, q1, hP1⟩, by rw [h2.2, h1.2]; exact hL⟩
  refine bq_icmp_eq_t (t := 934) G dL_law_312 (by decide) he ?_
  exact next _ _ hI
set_option maxHeartbeats 2000000 in
set_option maxRecDepth 100000 in
theorem lw_c7 {z b N i : Nat} {xs : Nat → Int32} {nm : String} {A : bq_A} {I : bq_IR} {L : bq_LR} (GS : bq_CxS b N xs cL_law RL 4 z room_1 nm A) (hN : N ≤ 3072) (hi : i + 6 ≤ N) (hv : INV I L) (next : ∀ (J : bq_IR) (L' : bq_LR), INV J L' → A 85 1785 934 [some (.ref b), some (.ref (z + 0)), some (.ref (z + 75)), some (.int (nI i))] [] 85 (bq_Rf z) J L') : A 85 1785 317 [some (.ref b), some (.ref (z + 0)), some (.ref (z + 75)), some (.int (nI i))] [] 85 (bq_Rf z) I L := by
  obtain ⟨⟨m, t, p, l, q, hP⟩, hL⟩ := hv
  have G := GS.cx
  have hC := hP.cs
  obtain ⟨a1, a2, a3, a4, a5⟩ := hP.2.2.1.1
  refine bq_aload_n (q := 318) G rfl dL_law_317 rfl ?_
  refine bq_aload_n (q := 319) G rfl dL_law_318 rfl ?_
  refine bq_iload_n (q := 320) G rfl dL_law_319 rfl ?_
  refine bq_iconst (q := 321) (v := 1) G (by decide) dL_law_320 rfl ?_
  refine bq_iadd (q := 322) G dL_law_321 rfl ?_
  refine bq_sld (q := 323) (k := i + 1) GS dL_law_322 rfl (bq_ixa rfl rfl) (by omega) (by omega) ?_
  refine bq_callvI (q := 326) G dL_law_323 rfl cl_L_44 (c_X8_teaches (T := I 77) (S := I 79) (p := p) (l := l) hC a3 a2 a4 a5) rfl ⟨Nat.le_of_ble_eq_true rfl, rfl⟩ rfl ⟨Nat.le_of_ble_eq_true rfl, Nat.le_of_ble_eq_true rfl⟩ (Nat.le_of_ble_eq_true rfl) ⟨Nat.le_of_ble_eq_true rfl, Nat.le_of_ble_eq_true rfl⟩ (fun r1 J L1 h1 => ?_)
  have hf : ∀ x, 75 ≤ x → J x = I x := by
    rcases h1.1 with ⟨_, _, rfl⟩ | ⟨k, _, _, _, _, hD⟩
    · exact fun _ _ => rfl
    · exact fun x hx => hD.hi hx
  refine bq_aload_n (q := 327) G rfl dL_law_326 rfl ?_
  refine bq_aload_n (q := 328) G rfl dL_law_327 rfl ?_
  refine bq_iload_n (q := 329) G rfl dL_law_328 rfl ?_
  refine bq_iconst (q := 330) (v := 1) G (by decide) dL_law_329 rfl ?_
  refine bq_iadd (q := 331) G dL_law_330 rfl ?_
  refine bq_sld (q := 332) (k := i + 1) GS dL_law_331 rfl (bq_ixa rfl rfl) (by omega) (by omega) ?_
  refine bq_callvI (q := 335) G dL_law_332 rfl cl_L_47 (c_X9_teaches (p := p) (by rw [hf 75 (by decide)]; exact a1) a2) rfl ⟨Nat.le_of_ble_eq_true rfl, rfl⟩ rfl ⟨Nat.le_of_ble_eq_true rfl, Nat.le_of_ble_eq_true rfl⟩ (Nat.le_of_ble_eq_true rfl) ⟨Nat.le_of_ble_eq_true rfl, Nat.le_of_ble_eq_true rfl⟩ (fun r2 K L2 h2 => ?_)
  obtain ⟨he, m1, t1, p1, l1, q1, hP1⟩ := op_teaches hP h1.1 h2.1
  have hI : INV K L2 := ⟨⟨m1, t1, p1, l1, q1, hP1⟩, by rw [h2.2, h1.2]; exact hL⟩
  refine bq_icmp_eq_t (t := 934) G dL_law_335 (by decide) he ?_
  exact next _ _ hI
set_option maxHeartbeats 2000000 in
set_option maxRecDepth 100000 in
theorem lw_c8 {z b N i : Nat} {xs : Nat → Int32} {nm : String} {A : bq_A} {I : bq_IR} {L : bq_LR} (GS : bq_CxS b N xs cL_law RL 4 z room_1 nm A) (hN : N ≤ 3072) (hi : i + 6 ≤ N) (hv : INV I L) (next : ∀ (J : bq_IR) (L' : bq_LR), INV J L' → A 85 1785 934 [some (.ref b), some (.ref (z + 0)), some (.ref (z + 75)), some (.int (nI i))] [] 85 (bq_Rf z) J L') : A 85 1785 340 [some (.ref b), some (.ref (z + 0)), some (.ref (z + 75)), some (.int (nI i))] [] 85 (bq_Rf z) I L := by
  obtain ⟨⟨m, t, p, l, q, hP⟩, hL⟩ := hv
  have G := GS.cx
  have hC := hP.cs
  obtain ⟨a1, a2, a3, a4, a5⟩ := hP.2.2.1.1
  refine bq_aload_n (q := 341) G rfl dL_law_340 rfl ?_
  refine bq_aload_n (q := 342) G rfl dL_law_341 rfl ?_
  refine bq_iload_n (q := 343) G rfl dL_law_342 rfl ?_
  refine bq_iconst (q := 344) (v := 1) G (by decide) dL_law_343 rfl ?_
  refine bq_iadd (q := 345) G dL_law_344 rfl ?_
  refine bq_sld (q := 346) (k := i + 1) GS dL_law_345 rfl (bq_ixa rfl rfl) (by omega) (by omega) ?_
  refine bq_callvI (q := 349) G dL_law_346 rfl cl_L_48 (c_X8_bores (T := I 77) (S := I 79) (p := p) (l := l) hC a3 a2 a4 a5) rfl ⟨Nat.le_of_ble_eq_true rfl, rfl⟩ rfl ⟨Nat.le_of_ble_eq_true rfl, Nat.le_of_ble_eq_true rfl⟩ (Nat.le_of_ble_eq_true rfl) ⟨Nat.le_of_ble_eq_true rfl, Nat.le_of_ble_eq_true rfl⟩ (fun r1 J L1 h1 => ?_)
  have hf : ∀ x, 75 ≤ x → J x = I x := by
    rcases h1.1 with ⟨_, _, rfl⟩ | ⟨k, _, _, _, ⟨_, _, rfl⟩ | ⟨_, _, hD⟩⟩
    · exact fun _ _ => rfl
    · exact fun _ _ => rfl
    · exact fun x hx => hD.hi hx
  refine bq_aload_n (q := 350) G rfl dL_law_349 rfl ?_
  refine bq_aload_n (q := 351) G rfl dL_law_350 rfl ?_
  refine bq_iload_n (q := 352) G rfl dL_law_351 rfl ?_
  refine bq_iconst (q := 353) (v := 1) G (by decide) dL_law_352 rfl ?_
  refine bq_iadd (q := 354) G dL_law_353 rfl ?_
  refine bq_sld (q := 355) (k := i + 1) GS dL_law_354 rfl (bq_ixa rfl rfl) (by omega) (by omega) ?_
  refine bq_callvI (q := 358) G dL_law_355 rfl cl_L_51 (c_X9_bores (p := p) (by rw [hf 75 (by decide)]; exact a1) a2) rfl ⟨Nat.le_of_ble_eq_true rfl, rfl⟩ rfl ⟨Nat.le_of_ble_eq_true rfl, Nat.le_of_ble_eq_true rfl⟩ (Nat.le_of_ble_eq_true rfl) ⟨Nat.le_of_ble_eq_true rfl, Nat.le_of_ble_eq_true rfl⟩ (fun r2 K L2 h2 => ?_)
  obtain ⟨he, m1, t1, p1, l1, q1, hP1⟩ := op_bores hP h1.1 h2.1
  have hI : INV K L2 := ⟨⟨m1, t1, p1, l1, q1, hP1⟩, by rw [h2.2, h1.2]; exact hL⟩
  refine bq_icmp_eq_t (t := 934) G dL_law_358 (by decide) he ?_
  exact next _ _ hI
set_option maxHeartbeats 2000000 in
set_option maxRecDepth 100000 in
theorem lw_c9 {z b N i : Nat} {xs : Nat → Int32} {nm : String} {A : bq_A} {I : bq_IR} {L : bq_LR} (GS : bq_CxS b N xs cL_law RL 4 z room_1 nm A) (hN : N ≤ 3072) (hi : i + 6 ≤ N) (hv : INV I L) (next : ∀ (J : bq_IR) (L' : bq_LR), INV J L' → A 85 1785 934 [some (.ref b), some (.ref (z + 0)), some (.ref (z + 75)), some (.int (nI i))] [] 85 (bq_Rf z) J L') : A 85 1785 363 [some (.ref b), some (.ref (z + 0)), some (.ref (z + 75)), some (.int (nI i))] [] 85 (bq_Rf z) I L := by
  obtain ⟨⟨m, t, p, l, q, hP⟩, hL⟩ := hv
  have G := GS.cx
  have hC := hP.cs
  obtain ⟨a1, a2, a3, a4, a5⟩ := hP.2.2.1.1
  refine bq_aload_n (q := 364) G rfl dL_law_363 rfl ?_
  refine bq_aload_n (q := 365) G rfl dL_law_364 rfl ?_
  refine bq_iload_n (q := 366) G rfl dL_law_365 rfl ?_
  refine bq_iconst (q := 367) (v := 1) G (by decide) dL_law_366 rfl ?_
  refine bq_iadd (q := 368) G dL_law_367 rfl ?_
  refine bq_sld (q := 369) (k := i + 1) GS dL_law_368 rfl (bq_ixa rfl rfl) (by omega) (by omega) ?_
  refine bq_callvI (q := 372) G dL_law_369 rfl cl_L_52 (c_X8_burns (T := I 77) (S := I 79) (p := p) (l := l) hC a3 a2 a4 a5) rfl ⟨Nat.le_of_ble_eq_true rfl, rfl⟩ rfl ⟨Nat.le_of_ble_eq_true rfl, Nat.le_of_ble_eq_true rfl⟩ (Nat.le_of_ble_eq_true rfl) ⟨Nat.le_of_ble_eq_true rfl, Nat.le_of_ble_eq_true rfl⟩ (fun r1 J L1 h1 => ?_)
  have hf : ∀ x, 75 ≤ x → J x = I x := by
    rcases h1.1 with ⟨_, _, rfl⟩ | ⟨k, _, _, _, ⟨_, _, rfl⟩ | ⟨_, _, hD⟩⟩
    · exact fun _ _ => rfl
    · exact fun _ _ => rfl
    · exact fun x hx => hD.hi hx
  refine bq_aload_n (q := 373) G rfl dL_law_372 rfl ?_
  refine bq_aload_n (q := 374) G rfl dL_law_373 rfl ?_
  refine bq_iload_n (q := 375) G rfl dL_law_374 rfl ?_
  refine bq_iconst (q := 376) (v := 1) G (by decide) dL_law_375 rfl ?_
  refine bq_iadd (q := 377) G dL_law_376 rfl ?_
  refine bq_sld (q := 378) (k := i + 1) GS dL_law_377 rfl (bq_ixa rfl rfl) (by omega) (by omega) ?_
  refine bq_callvI (q := 381) G dL_law_378 rfl cl_L_55 (c_X9_burns (p := p) (by rw [hf 75 (by decide)]; exact a1) a2) rfl ⟨Nat.le_of_ble_eq_true rfl, rfl⟩ rfl ⟨Nat.le_of_ble_eq_true rfl, Nat.le_of_ble_eq_true rfl⟩ (Nat.le_of_ble_eq_true rfl) ⟨Nat.le_of_ble_eq_true rfl, Nat.le_of_ble_eq_true rfl⟩ (fun r2 K L2 h2 => ?_)
  obtain ⟨he, m1, t1, p1, l1, q1, hP1⟩ := op_burns hP h1.1 h2.1
  have hI : INV K L2 := ⟨⟨m1, t1, p1, l1, q1, hP1⟩, by rw [h2.2, h1.2]; exact hL⟩
  refine bq_icmp_eq_t (t := 934) G dL_law_381 (by decide) he ?_
  exact next _ _ hI
set_option maxHeartbeats 2000000 in
set_option maxRecDepth 100000 in
theorem lw_c10 {z b N i : Nat} {xs : Nat → Int32} {nm : String} {A : bq_A} {I : bq_IR} {L : bq_LR} (GS : bq_CxS b N xs cL_law RL 4 z room_1 nm A) (hN : N ≤ 3072) (hi : i + 6 ≤ N) (hv : INV I L) (next : ∀ (J : bq_IR) (L' : bq_LR), INV J L' → A 85 1785 934 [some (.ref b), some (.ref (z + 0)), some (.ref (z + 75)), some (.int (nI i))] [] 85 (bq_Rf z) J L') : A 85 1785 386 [some (.ref b), some (.ref (z + 0)), some (.ref (z + 75)), some (.int (nI i))] [] 85 (bq_Rf z) I L := by
  obtain ⟨⟨m, t, p, l, q, hP⟩, hL⟩ := hv
  have G := GS.cx
  have hC := hP.cs
  obtain ⟨a1, a2, a3, a4, a5⟩ := hP.2.2.1.1
  refine bq_aload_n (q := 387) G rfl dL_law_386 rfl ?_
  refine bq_aload_n (q := 388) G rfl dL_law_387 rfl ?_
  refine bq_iload_n (q := 389) G rfl dL_law_388 rfl ?_
  refine bq_iconst (q := 390) (v := 1) G (by decide) dL_law_389 rfl ?_
  refine bq_iadd (q := 391) G dL_law_390 rfl ?_
  refine bq_sld (q := 392) (k := i + 1) GS dL_law_391 rfl (bq_ixa rfl rfl) (by omega) (by omega) ?_
  refine bq_callvI (q := 395) G dL_law_392 rfl cl_L_56 (c_X8_halts (T := I 77) (S := I 79) (p := p) (l := l) hC a3 a2 a4 a5) rfl ⟨Nat.le_of_ble_eq_true rfl, rfl⟩ rfl ⟨Nat.le_of_ble_eq_true rfl, Nat.le_of_ble_eq_true rfl⟩ (Nat.le_of_ble_eq_true rfl) ⟨Nat.le_of_ble_eq_true rfl, Nat.le_of_ble_eq_true rfl⟩ (fun r1 J L1 h1 => ?_)
  have hf : ∀ x, 75 ≤ x → J x = I x := by
    rcases h1.1 with ⟨_, _, rfl⟩ | ⟨k, _, _, _, _, hD⟩
    · exact fun _ _ => rfl
    · exact fun x hx => hD.hi hx
  refine bq_aload_n (q := 396) G rfl dL_law_395 rfl ?_
  refine bq_aload_n (q := 397) G rfl dL_law_396 rfl ?_
  refine bq_iload_n (q := 398) G rfl dL_law_397 rfl ?_
  refine bq_iconst (q := 399) (v := 1) G (by decide) dL_law_398 rfl ?_
  refine bq_iadd (q := 400) G dL_law_399 rfl ?_
  refine bq_sld (q := 401) (k := i + 1) GS dL_law_400 rfl (bq_ixa rfl rfl) (by omega) (by omega) ?_
  refine bq_callvI (q := 404) G dL_law_401 rfl cl_L_59 (c_X9_halts (p := p) (by rw [hf 75 (by decide)]; exact a1) a2) rfl ⟨Nat.le_of_ble_eq_true rfl, rfl⟩ rfl ⟨Nat.le_of_ble_eq_true rfl, Nat.le_of_ble_eq_true rfl⟩ (Nat.le_of_ble_eq_true rfl) ⟨Nat.le_of_ble_eq_true rfl, Nat.le_of_ble_eq_true rfl⟩ (fun r2 K L2 h2 => ?_)
  obtain ⟨he, m1, t1, p1, l1, q1, hP1⟩ := op_halts hP h1.1 h2.1
  have hI : INV K L2 := ⟨⟨m1, t1, p1, l1, q1, hP1⟩, by rw [h2.2, h1.2]; exact hL⟩
  refine bq_icmp_eq_t (t := 934) G dL_law_404 (by decide) he ?_
  exact next _ _ hI
set_option maxHeartbeats 2000000 in
set_option maxRecDepth 100000 in
theorem lw_c11 {z b N i : Nat} {xs : Nat → Int32} {nm : String} {A : bq_A} {I : bq_IR} {L : bq_LR} (GS : bq_CxS b N xs cL_law RL 4 z room_1 nm A) (hN : N ≤ 3072) (hi : i + 6 ≤ N) (hv : INV I L) (next : ∀ (J : bq_IR) (L' : bq_LR), INV J L' → A 85 1785 934 [some (.ref b), some (.ref (z + 0)), some (.ref (z + 75)), some (.int (nI i))] [] 85 (bq_Rf z) J L') : A 85 1785 409 [some (.ref b), some (.ref (z + 0)), some (.ref (z + 75)), some (.int (nI i))] [] 85 (bq_Rf z) I L := by
  obtain ⟨⟨m, t, p, l, q, hP⟩, hL⟩ := hv
  have G := GS.cx
  have hC := hP.cs
  obtain ⟨a1, a2, a3, a4, a5⟩ := hP.2.2.1.1
  have hM : 0 < p → gs_Mr I (27 + 4 * l) (fun j => I 80 (59 * (p - 1) + j)) := fun h => by
    have h0 := (hP.2.2.1.2 0 h).1
    rw [show (l + 8 - 0) % 8 = l by omega, show p - 1 - 0 = p - 1 by omega] at h0
    exact h0
  refine bq_aload_n (q := 410) G rfl dL_law_409 rfl ?_
  refine bq_callvI (q := 413) G dL_law_410 rfl cl_L_60 (c_X8_undo (p := p) (l := l) hM a3 a2 a4 a5) rfl ⟨Nat.le_of_ble_eq_true rfl, rfl⟩ rfl ⟨Nat.le_of_ble_eq_true rfl, Nat.le_of_ble_eq_true rfl⟩ (Nat.le_of_ble_eq_true rfl) ⟨Nat.le_of_ble_eq_true rfl, Nat.le_of_ble_eq_true rfl⟩ (fun r1 J L1 h1 => ?_)
  have hf : ∀ x, 75 ≤ x → J x = I x := by
    rcases h1.1 with ⟨_, _, rfl⟩ | ⟨_, _, _, _, _, g4⟩
    · exact fun _ _ => rfl
    · exact fun x hx => g4 x (by omega) (by omega)
  refine bq_aload_n (q := 414) G rfl dL_law_413 rfl ?_
  refine bq_callvI (q := 417) G dL_law_414 rfl cl_L_63 (c_X9_undo (p := p) (by rw [hf 75 (by decide)]; exact a1) a2) rfl ⟨Nat.le_of_ble_eq_true rfl, rfl⟩ rfl ⟨Nat.le_of_ble_eq_true rfl, Nat.le_of_ble_eq_true rfl⟩ (Nat.le_of_ble_eq_true rfl) ⟨Nat.le_of_ble_eq_true rfl, Nat.le_of_ble_eq_true rfl⟩ (fun r2 K L2 h2 => ?_)
  obtain ⟨he, m1, t1, p1, l1, q1, hP1⟩ := op_undo hP h1.1 h2.1
  have hI : INV K L2 := ⟨⟨m1, t1, p1, l1, q1, hP1⟩, by rw [h2.2, h1.2]; exact hL⟩
  refine bq_icmp_eq_t (t := 934) G dL_law_417 (by decide) he ?_
  exact next _ _ hI
set_option maxHeartbeats 2000000 in
set_option maxRecDepth 100000 in
theorem lw_c12 {z b N i : Nat} {xs : Nat → Int32} {nm : String} {A : bq_A} {I : bq_IR} {L : bq_LR} (GS : bq_CxS b N xs cL_law RL 4 z room_1 nm A) (hN : N ≤ 3072) (hi : i + 6 ≤ N) (hv : INV I L) (next : ∀ (J : bq_IR) (L' : bq_LR), INV J L' → A 85 1785 934 [some (.ref b), some (.ref (z + 0)), some (.ref (z + 75)), some (.int (nI i))] [] 85 (bq_Rf z) J L') : A 85 1785 422 [some (.ref b), some (.ref (z + 0)), some (.ref (z + 75)), some (.int (nI i))] [] 85 (bq_Rf z) I L := by
  obtain ⟨⟨m, t, p, l, q, hP⟩, hL⟩ := hv
  have G := GS.cx
  have hC := hP.cs
  obtain ⟨a1, a2, a3, a4, a5⟩ := hP.2.2.1.1
  refine bq_aload_n (q := 423) G rfl dL_law_422 rfl ?_
  refine bq_aload_n (q := 424) G rfl dL_law_423 rfl ?_
  refine bq_iload_n (q := 425) G rfl dL_law_424 rfl ?_
  refine bq_iconst (q := 426) (v := 1) G (by decide) dL_law_425 rfl ?_
  refine bq_iadd (q := 427) G dL_law_426 rfl ?_
  refine bq_sld (q := 428) (k := i + 1) GS dL_law_427 rfl (bq_ixa rfl rfl) (by omega) (by omega) ?_
  refine bq_callvI (q := 431) G dL_law_428 rfl cl_L_64 (c_X8_stands hC) rfl ⟨Nat.le_of_ble_eq_true rfl, rfl⟩ rfl ⟨Nat.le_of_ble_eq_true rfl, Nat.le_of_ble_eq_true rfl⟩ (Nat.le_of_ble_eq_true rfl) ⟨Nat.le_of_ble_eq_true rfl, Nat.le_of_ble_eq_true rfl⟩ (fun r1 J L1 h1 => ?_)
  obtain ⟨rfl, hJ, rfl⟩ := h1
  have e77 : J 77 = I 77 := hJ 77 (by decide)
  have e79 : J 79 = I 79 := hJ 79 (by decide)
  have hP1 := hP.ck hJ
  refine bq_aload_n (q := 432) G rfl dL_law_431 rfl ?_
  refine bq_aload_n (q := 433) G rfl dL_law_432 rfl ?_
  refine bq_iload_n (q := 434) G rfl dL_law_433 rfl ?_
  refine bq_iconst (q := 435) (v := 1) G (by decide) dL_law_434 rfl ?_
  refine bq_iadd (q := 436) G dL_law_435 rfl ?_
  refine bq_sld (q := 437) (k := i + 1) GS dL_law_436 rfl (bq_ixa rfl rfl) (by omega) (by omega) ?_
  refine bq_callvI (q := 440) G dL_law_437 rfl cl_L_67 (c_X9_stands hP1.ar) rfl ⟨Nat.le_of_ble_eq_true rfl, rfl⟩ rfl ⟨Nat.le_of_ble_eq_true rfl, Nat.le_of_ble_eq_true rfl⟩ (Nat.le_of_ble_eq_true rfl) ⟨Nat.le_of_ble_eq_true rfl, Nat.le_of_ble_eq_true rfl⟩ (fun r2 K L2 h2 => ?_)
  obtain ⟨rfl, hK, rfl⟩ := h2
  have hI : INV K _ := ⟨⟨m, t, p, l, q, hP1.mk hK⟩, hL⟩
  refine bq_icmp_eq_t (t := 934) G dL_law_440 (by decide) (by rw [e77, e79]) ?_
  exact next _ _ hI
set_option maxHeartbeats 2000000 in
set_option maxRecDepth 100000 in
theorem lw_c13 {z b N i : Nat} {xs : Nat → Int32} {nm : String} {A : bq_A} {I : bq_IR} {L : bq_LR} (GS : bq_CxS b N xs cL_law RL 4 z room_1 nm A) (hN : N ≤ 3072) (hi : i + 6 ≤ N) (hv : INV I L) (next : ∀ (J : bq_IR) (L' : bq_LR), INV J L' → A 85 1785 934 [some (.ref b), some (.ref (z + 0)), some (.ref (z + 75)), some (.int (nI i))] [] 85 (bq_Rf z) J L') : A 85 1785 445 [some (.ref b), some (.ref (z + 0)), some (.ref (z + 75)), some (.int (nI i))] [] 85 (bq_Rf z) I L := by
  obtain ⟨⟨m, t, p, l, q, hP⟩, hL⟩ := hv
  have G := GS.cx
  have hC := hP.cs
  obtain ⟨a1, a2, a3, a4, a5⟩ := hP.2.2.1.1
  refine bq_aload_n (q := 446) G rfl dL_law_445 rfl ?_
  refine bq_callvI (q := 449) G dL_law_446 rfl cl_L_68 (c_X8_above hC) rfl ⟨Nat.le_of_ble_eq_true rfl, rfl⟩ rfl ⟨Nat.le_of_ble_eq_true rfl, Nat.le_of_ble_eq_true rfl⟩ (Nat.le_of_ble_eq_true rfl) ⟨Nat.le_of_ble_eq_true rfl, Nat.le_of_ble_eq_true rfl⟩ (fun r1 J L1 h1 => ?_)
  obtain ⟨rfl, hJ, rfl⟩ := h1
  have e77 : J 77 = I 77 := hJ 77 (by decide)
  have e79 : J 79 = I 79 := hJ 79 (by decide)
  have hP1 := hP.ck hJ
  refine bq_aload_n (q := 450) G rfl dL_law_449 rfl ?_
  refine bq_callvI (q := 453) G dL_law_450 rfl cl_L_71 (c_X9_above hP1.ar) rfl ⟨Nat.le_of_ble_eq_true rfl, rfl⟩ rfl ⟨Nat.le_of_ble_eq_true rfl, Nat.le_of_ble_eq_true rfl⟩ (Nat.le_of_ble_eq_true rfl) ⟨Nat.le_of_ble_eq_true rfl, Nat.le_of_ble_eq_true rfl⟩ (fun r2 K L2 h2 => ?_)
  obtain ⟨rfl, hK, rfl⟩ := h2
  have hI : INV K _ := ⟨⟨m, t, p, l, q, hP1.mk hK⟩, hL⟩
  refine bq_icmp_eq_t (t := 934) G dL_law_453 (by decide) (by rw [e77, e79]) ?_
  exact next _ _ hI
set_option maxHeartbeats 2000000 in
set_option maxRecDepth 100000 in
theorem lw_c14 {z b N i : Nat} {xs : Nat → Int32} {nm : String} {A : bq_A} {I : bq_IR} {L : bq_LR} (GS : bq_CxS b N xs cL_law RL 4 z room_1 nm A) (hN : N ≤ 3072) (hi : i + 6 ≤ N) (hv : INV I L) (next : ∀ (J : bq_IR) (L' : bq_LR), INV J L' → A 85 1785 934 [some (.ref b), some (.ref (z + 0)), some (.ref (z + 75)), some (.int (nI i))] [] 85 (bq_Rf z) J L') : A 85 1785 458 [some (.ref b), some (.ref (z + 0)), some (.ref (z + 75)), some (.int (nI i))] [] 85 (bq_Rf z) I L := by
  obtain ⟨⟨m, t, p, l, q, hP⟩, hL⟩ := hv
  have G := GS.cx
  have hC := hP.cs
  obtain ⟨a1, a2, a3, a4, a5⟩ := hP.2.2.1.1
  refine bq_aload_n (q := 459) G rfl dL_law_458 rfl ?_
  refine bq_aload_n (q := 460) G rfl dL_law_459 rfl ?_
  refine bq_iload_n (q := 461) G rfl dL_law_460 rfl ?_
  refine bq_iconst (q := 462) (v := 1) G (by decide) dL_law_461 rfl ?_
  refine bq_iadd (q := 463) G dL_law_462 rfl ?_
  refine bq_sld (q := 464) (k := i + 1) GS dL_law_463 rfl (bq_ixa rfl rfl) (by omega) (by omega) ?_
  refine bq_callvI (q := 467) G dL_law_464 rfl cl_L_72 (c_X8_most hC) rfl ⟨Nat.le_of_ble_eq_true rfl, rfl⟩ rfl ⟨Nat.le_of_ble_eq_true rfl, Nat.le_of_ble_eq_true rfl⟩ (Nat.le_of_ble_eq_true rfl) ⟨Nat.le_of_ble_eq_true rfl, Nat.le_of_ble_eq_true rfl⟩ (fun r1 J L1 h1 => ?_)
  obtain ⟨rfl, hJ, rfl⟩ := h1
  have e77 : J 77 = I 77 := hJ 77 (by decide)
  have e79 : J 79 = I 79 := hJ 79 (by decide)
  have hP1 := hP.ck hJ
  refine bq_aload_n (q := 468) G rfl dL_law_467 rfl ?_
  refine bq_aload_n (q := 469) G rfl dL_law_468 rfl ?_
  refine bq_iload_n (q := 470) G rfl dL_law_469 rfl ?_
  refine bq_iconst (q := 471) (v := 1) G (by decide) dL_law_470 rfl ?_
  refine bq_iadd (q := 472) G dL_law_471 rfl ?_
  refine bq_sld (q := 473) (k := i + 1) GS dL_law_472 rfl (bq_ixa rfl rfl) (by omega) (by omega) ?_
  refine bq_callvI (q := 476) G dL_law_473 rfl cl_L_75 (c_X9_most hP1.ar) rfl ⟨Nat.le_of_ble_eq_true rfl, rfl⟩ rfl ⟨Nat.le_of_ble_eq_true rfl, Nat.le_of_ble_eq_true rfl⟩ (Nat.le_of_ble_eq_true rfl) ⟨Nat.le_of_ble_eq_true rfl, Nat.le_of_ble_eq_true rfl⟩ (fun r2 K L2 h2 => ?_)
  obtain ⟨rfl, hK, rfl⟩ := h2
  have hI : INV K _ := ⟨⟨m, t, p, l, q, hP1.mk hK⟩, hL⟩
  refine bq_icmp_eq_t (t := 934) G dL_law_476 (by decide) (by rw [e77, e79]) ?_
  exact next _ _ hI
set_option maxHeartbeats 2000000 in
set_option maxRecDepth 100000 in
theorem lw_c15 {z b N i : Nat} {xs : Nat → Int32} {nm : String} {A : bq_A} {I : bq_IR} {L : bq_LR} (GS : bq_CxS b N xs cL_law RL 4 z room_1 nm A) (hN : N ≤ 3072) (hi : i + 6 ≤ N) (hv : INV I L) (next : ∀ (J : bq_IR) (L' : bq_LR), INV J L' → A 85 1785 934 [some (.ref b), some (.ref (z + 0)), some (.ref (z + 75)), some (.int (nI i))] [] 85 (bq_Rf z) J L') : A 85 1785 481 [some (.ref b), some (.ref (z + 0)), some (.ref (z + 75)), some (.int (nI i))] [] 85 (bq_Rf z) I L := by
  obtain ⟨⟨m, t, p, l, q, hP⟩, hL⟩ := hv
  have G := GS.cx
  have hC := hP.cs
  obtain ⟨a1, a2, a3, a4, a5⟩ := hP.2.2.1.1
  refine bq_aload_n (q := 482) G rfl dL_law_481 rfl ?_
  refine bq_aload_n (q := 483) G rfl dL_law_482 rfl ?_
  refine bq_iload_n (q := 484) G rfl dL_law_483 rfl ?_
  refine bq_iconst (q := 485) (v := 1) G (by decide) dL_law_484 rfl ?_
  refine bq_iadd (q := 486) G dL_law_485 rfl ?_
  refine bq_sld (q := 487) (k := i + 1) GS dL_law_486 rfl (bq_ixa rfl rfl) (by omega) (by omega) ?_
  refine bq_callvI (q := 490) G dL_law_487 rfl cl_L_76 (c_X8_teach hC) rfl ⟨Nat.le_of_ble_eq_true rfl, rfl⟩ rfl ⟨Nat.le_of_ble_eq_true rfl, Nat.le_of_ble_eq_true rfl⟩ (Nat.le_of_ble_eq_true rfl) ⟨Nat.le_of_ble_eq_true rfl, Nat.le_of_ble_eq_true rfl⟩ (fun r1 J L1 h1 => ?_)
  obtain ⟨hr, hJ, rfl⟩ := h1
  have e77 : J 77 = I 77 := hJ 77 (by decide)
  have e79 : J 79 = I 79 := hJ 79 (by decide)
  have hP1 := hP.ck hJ
  refine bq_aload_n (q := 491) G rfl dL_law_490 rfl ?_
  refine bq_aload_n (q := 492) G rfl dL_law_491 rfl ?_
  refine bq_iload_n (q := 493) G rfl dL_law_492 rfl ?_
  refine bq_iconst (q := 494) (v := 1) G (by decide) dL_law_493 rfl ?_
  refine bq_iadd (q := 495) G dL_law_494 rfl ?_
  refine bq_sld (q := 496) (k := i + 1) GS dL_law_495 rfl (bq_ixa rfl rfl) (by omega) (by omega) ?_
  refine bq_callvI (q := 499) G dL_law_496 rfl cl_L_79 (c_X9_teach hP1.ar) rfl ⟨Nat.le_of_ble_eq_true rfl, rfl⟩ rfl ⟨Nat.le_of_ble_eq_true rfl, Nat.le_of_ble_eq_true rfl⟩ (Nat.le_of_ble_eq_true rfl) ⟨Nat.le_of_ble_eq_true rfl, Nat.le_of_ble_eq_true rfl⟩ (fun r2 K L2 h2 => ?_)
  obtain ⟨hr2, hK, rfl⟩ := h2
  rw [e77, e79] at hr2
  have he : r1 = r2 := by
    by_cases hn : 1 ≤ xs (i + 1) ∧ xs (i + 1) ≤ 60
    · exact gs_few_u 256 (hr.1 hn) (hr2.1 hn)
    · rw [hr.2 hn, hr2.2 hn]
  have hI : INV K _ := ⟨⟨m, t, p, l, q, hP1.mk hK⟩, hL⟩
  refine bq_icmp_eq_t (t := 934) G dL_law_499 (by decide) he ?_
  exact next _ _ hI
set_option maxHeartbeats 2000000 in
set_option maxRecDepth 100000 in
theorem lw_c16 {z b N i : Nat} {xs : Nat → Int32} {nm : String} {A : bq_A} {I : bq_IR} {L : bq_LR} (GS : bq_CxS b N xs cL_law RL 4 z room_1 nm A) (hN : N ≤ 3072) (hi : i + 6 ≤ N) (hv : INV I L) (next : ∀ (J : bq_IR) (L' : bq_LR), INV J L' → A 85 1785 934 [some (.ref b), some (.ref (z + 0)), some (.ref (z + 75)), some (.int (nI i))] [] 85 (bq_Rf z) J L') : A 85 1785 504 [some (.ref b), some (.ref (z + 0)), some (.ref (z + 75)), some (.int (nI i))] [] 85 (bq_Rf z) I L := by
  obtain ⟨⟨m, t, p, l, q, hP⟩, hL⟩ := hv
  have G := GS.cx
  have hC := hP.cs
  obtain ⟨a1, a2, a3, a4, a5⟩ := hP.2.2.1.1
  refine bq_aload_n (q := 505) G rfl dL_law_504 rfl ?_
  refine bq_aload_n (q := 506) G rfl dL_law_505 rfl ?_
  refine bq_iload_n (q := 507) G rfl dL_law_506 rfl ?_
  refine bq_iconst (q := 508) (v := 1) G (by decide) dL_law_507 rfl ?_
  refine bq_iadd (q := 509) G dL_law_508 rfl ?_
  refine bq_sld (q := 510) (k := i + 1) GS dL_law_509 rfl (bq_ixa rfl rfl) (by omega) (by omega) ?_
  refine bq_callvI (q := 513) G dL_law_510 rfl cl_L_80 (c_X8_burn hC) rfl ⟨Nat.le_of_ble_eq_true rfl, rfl⟩ rfl ⟨Nat.le_of_ble_eq_true rfl, Nat.le_of_ble_eq_true rfl⟩ (Nat.le_of_ble_eq_true rfl) ⟨Nat.le_of_ble_eq_true rfl, Nat.le_of_ble_eq_true rfl⟩ (fun r1 J L1 h1 => ?_)
  obtain ⟨hr, hJ, rfl⟩ := h1
  have e77 : J 77 = I 77 := hJ 77 (by decide)
  have e79 : J 79 = I 79 := hJ 79 (by decide)
  have hP1 := hP.ck hJ
  refine bq_aload_n (q := 514) G rfl dL_law_513 rfl ?_
  refine bq_aload_n (q := 515) G rfl dL_law_514 rfl ?_
  refine bq_iload_n (q := 516) G rfl dL_law_515 rfl ?_
  refine bq_iconst (q := 517) (v := 1) G (by decide) dL_law_516 rfl ?_
  refine bq_iadd (q := 518) G dL_law_517 rfl ?_
  refine bq_sld (q := 519) (k := i + 1) GS dL_law_518 rfl (bq_ixa rfl rfl) (by omega) (by omega) ?_
  refine bq_callvI (q := 522) G dL_law_519 rfl cl_L_83 (c_X9_burn hP1.ar) rfl ⟨Nat.le_of_ble_eq_true rfl, rfl⟩ rfl ⟨Nat.le_of_ble_eq_true rfl, Nat.le_of_ble_eq_true rfl⟩ (Nat.le_of_ble_eq_true rfl) ⟨Nat.le_of_ble_eq_true rfl, Nat.le_of_ble_eq_true rfl⟩ (fun r2 K L2 h2 => ?_)
  obtain ⟨hr2, hK, rfl⟩ := h2
  rw [e77, e79] at hr2
  have he : r1 = r2 := by
    by_cases hn : 1 ≤ xs (i + 1) ∧ xs (i + 1) ≤ 60
    · exact gs_few_u 256 (hr.1 hn) (hr2.1 hn)
    · rw [hr.2 hn, hr2.2 hn]
  have hI : INV K _ := ⟨⟨m, t, p, l, q, hP1.mk hK⟩, hL⟩
  refine bq_icmp_eq_t (t := 934) G dL_law_522 (by decide) he ?_
  exact next _ _ hI
set_option maxHeartbeats 2000000 in
set_option maxRecDepth 100000 in
theorem lw_c17 {z b N i : Nat} {xs : Nat → Int32} {nm : String} {A : bq_A} {I : bq_IR} {L : bq_LR} (GS : bq_CxS b N xs cL_law RL 4 z room_1 nm A) (hN : N ≤ 3072) (hi : i + 6 ≤ N) (hv : INV I L) (next : ∀ (J : bq_IR) (L' : bq_LR), INV J L' → A 85 1785 934 [some (.ref b), some (.ref (z + 0)), some (.ref (z + 75)), some (.int (nI i))] [] 85 (bq_Rf z) J L') : A 85 1785 527 [some (.ref b), some (.ref (z + 0)), some (.ref (z + 75)), some (.int (nI i))] [] 85 (bq_Rf z) I L := by
  obtain ⟨⟨m, t, p, l, q, hP⟩, hL⟩ := hv
  have G := GS.cx
  have hC := hP.cs
  obtain ⟨a1, a2, a3, a4, a5⟩ := hP.2.2.1.1
  refine bq_aload_n (q := 528) G rfl dL_law_527 rfl ?_
  refine bq_aload_n (q := 529) G rfl dL_law_528 rfl ?_
  refine bq_iload_n (q := 530) G rfl dL_law_529 rfl ?_
  refine bq_iconst (q := 531) (v := 1) G (by decide) dL_law_530 rfl ?_
  refine bq_iadd (q := 532) G dL_law_531 rfl ?_
  refine bq_sld (q := 533) (k := i + 1) GS dL_law_532 rfl (bq_ixa rfl rfl) (by omega) (by omega) ?_
  refine bq_callvI (q := 536) G dL_law_533 rfl cl_L_84 (c_X8_stair hC) rfl ⟨Nat.le_of_ble_eq_true rfl, rfl⟩ rfl ⟨Nat.le_of_ble_eq_true rfl, Nat.le_of_ble_eq_true rfl⟩ (Nat.le_of_ble_eq_true rfl) ⟨Nat.le_of_ble_eq_true rfl, Nat.le_of_ble_eq_true rfl⟩ (fun r1 J L1 h1 => ?_)
  obtain ⟨rfl, hJ, rfl⟩ := h1
  have e77 : J 77 = I 77 := hJ 77 (by decide)
  have e79 : J 79 = I 79 := hJ 79 (by decide)
  have hP1 := hP.ck hJ
  refine bq_aload_n (q := 537) G rfl dL_law_536 rfl ?_
  refine bq_aload_n (q := 538) G rfl dL_law_537 rfl ?_
  refine bq_iload_n (q := 539) G rfl dL_law_538 rfl ?_
  refine bq_iconst (q := 540) (v := 1) G (by decide) dL_law_539 rfl ?_
  refine bq_iadd (q := 541) G dL_law_540 rfl ?_
  refine bq_sld (q := 542) (k := i + 1) GS dL_law_541 rfl (bq_ixa rfl rfl) (by omega) (by omega) ?_
  refine bq_callvI (q := 545) G dL_law_542 rfl cl_L_87 (c_X9_stair hP1.ar) rfl ⟨Nat.le_of_ble_eq_true rfl, rfl⟩ rfl ⟨Nat.le_of_ble_eq_true rfl, Nat.le_of_ble_eq_true rfl⟩ (Nat.le_of_ble_eq_true rfl) ⟨Nat.le_of_ble_eq_true rfl, Nat.le_of_ble_eq_true rfl⟩ (fun r2 K L2 h2 => ?_)
  obtain ⟨rfl, hK, rfl⟩ := h2
  have hI : INV K _ := ⟨⟨m, t, p, l, q, hP1.mk hK⟩, hL⟩
  refine bq_icmp_eq_t (t := 934) G dL_law_545 (by decide) (by rw [e77, e79]) ?_
  exact next _ _ hI
set_option maxHeartbeats 2000000 in
set_option maxRecDepth 100000 in
theorem lw_c18 {z b N i : Nat} {xs : Nat → Int32} {nm : String} {A : bq_A} {I : bq_IR} {L : bq_LR} (GS : bq_CxS b N xs cL_law RL 4 z room_1 nm A) (hN : N ≤ 3072) (hi : i + 6 ≤ N) (hv : INV I L) (next : ∀ (J : bq_IR) (L' : bq_LR), INV J L' → A 85 1785 934 [some (.ref b), some (.ref (z + 0)), some (.ref (z + 75)), some (.int (nI i))] [] 85 (bq_Rf z) J L') : A 85 1785 550 [some (.ref b), some (.ref (z + 0)), some (.ref (z + 75)), some (.int (nI i))] [] 85 (bq_Rf z) I L := by
  obtain ⟨⟨m, t, p, l, q, hP⟩, hL⟩ := hv
  have G := GS.cx
  have hC := hP.cs
  obtain ⟨a1, a2, a3, a4, a5⟩ := hP.2.2.1.1
  refine bq_aload_n (q := 551) G rfl dL_law_550 rfl ?_
  refine bq_aload_n (q := 552) G rfl dL_law_551 rfl ?_
  refine bq_iload_n (q := 553) G rfl dL_law_552 rfl ?_
  refine bq_iconst (q := 554) (v := 1) G (by decide) dL_law_553 rfl ?_
  refine bq_iadd (q := 555) G dL_law_554 rfl ?_
  refine bq_sld (q := 556) (k := i + 1) GS dL_law_555 rfl (bq_ixa rfl rfl) (by omega) (by omega) ?_
  refine bq_callvI (q := 559) G dL_law_556 rfl cl_L_88 (c_X8_drain hC) rfl ⟨Nat.le_of_ble_eq_true rfl, rfl⟩ rfl ⟨Nat.le_of_ble_eq_true rfl, Nat.le_of_ble_eq_true rfl⟩ (Nat.le_of_ble_eq_true rfl) ⟨Nat.le_of_ble_eq_true rfl, Nat.le_of_ble_eq_true rfl⟩ (fun r1 J L1 h1 => ?_)
  obtain ⟨rfl, hJ, rfl⟩ := h1
  have e77 : J 77 = I 77 := hJ 77 (by decide)
  have e79 : J 79 = I 79 := hJ 79 (by decide)
  have hP1 := hP.ck hJ
  refine bq_aload_n (q := 560) G rfl dL_law_559 rfl ?_
  refine bq_aload_n (q := 561) G rfl dL_law_560 rfl ?_
  refine bq_iload_n (q := 562) G rfl dL_law_561 rfl ?_
  refine bq_iconst (q := 563) (v := 1) G (by decide) dL_law_562 rfl ?_
  refine bq_iadd (q := 564) G dL_law_563 rfl ?_
  refine bq_sld (q := 565) (k := i + 1) GS dL_law_564 rfl (bq_ixa rfl rfl) (by omega) (by omega) ?_
  refine bq_callvI (q := 568) G dL_law_565 rfl cl_L_91 (c_X9_drain hP1.ar) rfl ⟨Nat.le_of_ble_eq_true rfl, rfl⟩ rfl ⟨Nat.le_of_ble_eq_true rfl, Nat.le_of_ble_eq_true rfl⟩ (Nat.le_of_ble_eq_true rfl) ⟨Nat.le_of_ble_eq_true rfl, Nat.le_of_ble_eq_true rfl⟩ (fun r2 K L2 h2 => ?_)
  obtain ⟨rfl, hK, rfl⟩ := h2
  have hI : INV K _ := ⟨⟨m, t, p, l, q, hP1.mk hK⟩, hL⟩
  refine bq_icmp_eq_t (t := 934) G dL_law_568 (by decide) (by rw [e77, e79]) ?_
  exact next _ _ hI
set_option maxHeartbeats 2000000 in
set_option maxRecDepth 100000 in
theorem lw_c19 {z b N i : Nat} {xs : Nat → Int32} {nm : String} {A : bq_A} {I : bq_IR} {L : bq_LR} (GS : bq_CxS b N xs cL_law RL 4 z room_1 nm A) (hN : N ≤ 3072) (hi : i + 6 ≤ N) (hv : INV I L) (next : ∀ (J : bq_IR) (L' : bq_LR), INV J L' → A 85 1785 934 [some (.ref b), some (.ref (z + 0)), some (.ref (z + 75)), some (.int (nI i))] [] 85 (bq_Rf z) J L') : A 85 1785 573 [some (.ref b), some (.ref (z + 0)), some (.ref (z + 75)), some (.int (nI i))] [] 85 (bq_Rf z) I L := by
  obtain ⟨⟨m, t, p, l, q, hP⟩, hL⟩ := hv
  have G := GS.cx
  have hC := hP.cs
  obtain ⟨a1, a2, a3, a4, a5⟩ := hP.2.2.1.1
  refine bq_aload_n (q := 574) G rfl dL_law_573 rfl ?_
  refine bq_aload_n (q := 575) G rfl dL_law_574 rfl ?_
  refine bq_iload_n (q := 576) G rfl dL_law_575 rfl ?_
  refine bq_iconst (q := 577) (v := 1) G (by decide) dL_law_576 rfl ?_
  refine bq_iadd (q := 578) G dL_law_577 rfl ?_
  refine bq_sld (q := 579) (k := i + 1) GS dL_law_578 rfl (bq_ixa rfl rfl) (by omega) (by omega) ?_
  refine bq_callv (q := 582) G dL_law_579 rfl cl_L_92 (c_X8_flow (T := I 77) (S := I 79) hC) rfl ⟨Nat.le_of_ble_eq_true rfl, rfl⟩ rfl ⟨Nat.le_of_ble_eq_true rfl, Nat.le_of_ble_eq_true rfl⟩ (Nat.le_of_ble_eq_true rfl) ⟨Nat.le_of_ble_eq_true rfl, Nat.le_of_ble_eq_true rfl⟩ rfl ?_
  refine bq_aload_n (q := 583) G rfl dL_law_582 rfl ?_
  refine bq_aload_n (q := 584) G rfl dL_law_583 rfl ?_
  refine bq_iload_n (q := 585) G rfl dL_law_584 rfl ?_
  refine bq_iconst (q := 586) (v := 1) G (by decide) dL_law_585 rfl ?_
  refine bq_iadd (q := 587) G dL_law_586 rfl ?_
  refine bq_sld (q := 588) (k := i + 1) GS dL_law_587 rfl (bq_ixa rfl rfl) (by omega) (by omega) ?_
  refine bq_callv (q := 591) G dL_law_588 rfl cl_L_96 (c_X9_flow hP.2.1.2.1) rfl ⟨Nat.le_of_ble_eq_true rfl, rfl⟩ rfl ⟨Nat.le_of_ble_eq_true rfl, Nat.le_of_ble_eq_true rfl⟩ (Nat.le_of_ble_eq_true rfl) ⟨Nat.le_of_ble_eq_true rfl, Nat.le_of_ble_eq_true rfl⟩ rfl ?_
  have hI : INV I (if 0 ≤ xs (i + 1) ∧ xs (i + 1) ≤ 1 then gs_fr L (lZ (fr_A (I 79) 8).1) (lN (fr_A (I 79) 8).2) else L) := by
    refine ⟨⟨m, t, p, l, q, hP⟩, ?_⟩
    split
    · rw [gs_fr_n (by decide), gs_fr_n (by decide)]; exact hL
    · exact hL
  refine bq_lcmp (q := 592) G dL_law_591 rfl ?_
  refine bq_if_eq_t (t := 934) G dL_law_592 (by decide) ((lg_cmp_eq _ _).mpr rfl) ?_
  exact next _ _ hI
set_option maxHeartbeats 2000000 in
set_option maxRecDepth 100000 in
theorem lw_c20 {z b N i : Nat} {xs : Nat → Int32} {nm : String} {A : bq_A} {I : bq_IR} {L : bq_LR} (GS : bq_CxS b N xs cL_law RL 4 z room_1 nm A) (hN : N ≤ 3072) (hi : i + 6 ≤ N) (hv : INV I L) (next : ∀ (J : bq_IR) (L' : bq_LR), INV J L' → A 85 1785 934 [some (.ref b), some (.ref (z + 0)), some (.ref (z + 75)), some (.int (nI i))] [] 85 (bq_Rf z) J L') : A 85 1785 597 [some (.ref b), some (.ref (z + 0)), some (.ref (z + 75)), some (.int (nI i))] [] 85 (bq_Rf z) I L := by
  obtain ⟨⟨m, t, p, l, q, hP⟩, hL⟩ := hv
  have G := GS.cx
  have hC := hP.cs
  obtain ⟨a1, a2, a3, a4, a5⟩ := hP.2.2.1.1
  refine bq_aload_n (q := 598) G rfl dL_law_597 rfl ?_
  refine bq_aload_n (q := 599) G rfl dL_law_598 rfl ?_
  refine bq_iload_n (q := 600) G rfl dL_law_599 rfl ?_
  refine bq_iconst (q := 601) (v := 1) G (by decide) dL_law_600 rfl ?_
  refine bq_iadd (q := 602) G dL_law_601 rfl ?_
  refine bq_sld (q := 603) (k := i + 1) GS dL_law_602 rfl (bq_ixa rfl rfl) (by omega) (by omega) ?_
  refine bq_aload_n (q := 604) G rfl dL_law_603 rfl ?_
  refine bq_iload_n (q := 605) G rfl dL_law_604 rfl ?_
  refine bq_iconst (q := 606) (v := 2) G (by decide) dL_law_605 rfl ?_
  refine bq_iadd (q := 607) G dL_law_606 rfl ?_
  refine bq_sld (q := 608) (k := i + 2) GS dL_law_607 rfl (bq_ixa rfl rfl) (by omega) (by omega) ?_
  refine bq_aload_n (q := 609) G rfl dL_law_608 rfl ?_
  refine bq_iload_n (q := 610) G rfl dL_law_609 rfl ?_
  refine bq_iconst (q := 611) (v := 3) G (by decide) dL_law_610 rfl ?_
  refine bq_iadd (q := 612) G dL_law_611 rfl ?_
  refine bq_sld (q := 613) (k := i + 3) GS dL_law_612 rfl (bq_ixa rfl rfl) (by omega) (by omega) ?_
  refine bq_callv (q := 616) G dL_law_613 rfl cl_L_97 (c_X8_splitOn (T := I 77) (S := I 79) hC) rfl ⟨Nat.le_of_ble_eq_true rfl, rfl⟩ rfl ⟨Nat.le_of_ble_eq_true rfl, Nat.le_of_ble_eq_true rfl⟩ (Nat.le_of_ble_eq_true rfl) ⟨Nat.le_of_ble_eq_true rfl, Nat.le_of_ble_eq_true rfl⟩ rfl ?_
  refine bq_aload_n (q := 617) G rfl dL_law_616 rfl ?_
  refine bq_aload_n (q := 618) G rfl dL_law_617 rfl ?_
  refine bq_iload_n (q := 619) G rfl dL_law_618 rfl ?_
  refine bq_iconst (q := 620) (v := 1) G (by decide) dL_law_619 rfl ?_
  refine bq_iadd (q := 621) G dL_law_620 rfl ?_
  refine bq_sld (q := 622) (k := i + 1) GS dL_law_621 rfl (bq_ixa rfl rfl) (by omega) (by omega) ?_
  refine bq_aload_n (q := 623) G rfl dL_law_622 rfl ?_
  refine bq_iload_n (q := 624) G rfl dL_law_623 rfl ?_
  refine bq_iconst (q := 625) (v := 2) G (by decide) dL_law_624 rfl ?_
  refine bq_iadd (q := 626) G dL_law_625 rfl ?_
  refine bq_sld (q := 627) (k := i + 2) GS dL_law_626 rfl (bq_ixa rfl rfl) (by omega) (by omega) ?_
  refine bq_aload_n (q := 628) G rfl dL_law_627 rfl ?_
  refine bq_iload_n (q := 629) G rfl dL_law_628 rfl ?_
  refine bq_iconst (q := 630) (v := 3) G (by decide) dL_law_629 rfl ?_
  refine bq_iadd (q := 631) G dL_law_630 rfl ?_
  refine bq_sld (q := 632) (k := i + 3) GS dL_law_631 rfl (bq_ixa rfl rfl) (by omega) (by omega) ?_
  refine bq_callv (q := 635) G dL_law_632 rfl cl_L_101 (c_X9_splitOn) rfl ⟨Nat.le_of_ble_eq_true rfl, rfl⟩ rfl ⟨Nat.le_of_ble_eq_true rfl, Nat.le_of_ble_eq_true rfl⟩ (Nat.le_of_ble_eq_true rfl) ⟨Nat.le_of_ble_eq_true rfl, Nat.le_of_ble_eq_true rfl⟩ rfl ?_
  have hI : INV I L := ⟨⟨m, t, p, l, q, hP⟩, hL⟩
  refine bq_icmp_eq_t (t := 934) G dL_law_635 (by decide) rfl ?_
  exact next _ _ hI
set_option maxHeartbeats 2000000 in
set_option maxRecDepth 100000 in
theorem lw_c21 {z b N i : Nat} {xs : Nat → Int32} {nm : String} {A : bq_A} {I : bq_IR} {L : bq_LR} (GS : bq_CxS b N xs cL_law RL 4 z room_1 nm A) (hN : N ≤ 3072) (hi : i + 6 ≤ N) (hv : INV I L) (next : ∀ (J : bq_IR) (L' : bq_LR), INV J L' → A 85 1785 934 [some (.ref b), some (.ref (z + 0)), some (.ref (z + 75)), some (.int (nI i))] [] 85 (bq_Rf z) J L') : A 85 1785 640 [some (.ref b), some (.ref (z + 0)), some (.ref (z + 75)), some (.int (nI i))] [] 85 (bq_Rf z) I L := by
  obtain ⟨⟨m, t, p, l, q, hP⟩, hL⟩ := hv
  have G := GS.cx
  have hC := hP.cs
  obtain ⟨a1, a2, a3, a4, a5⟩ := hP.2.2.1.1
  refine bq_aload_n (q := 641) G rfl dL_law_640 rfl ?_
  refine bq_aload_n (q := 642) G rfl dL_law_641 rfl ?_
  refine bq_iload_n (q := 643) G rfl dL_law_642 rfl ?_
  refine bq_iconst (q := 644) (v := 1) G (by decide) dL_law_643 rfl ?_
  refine bq_iadd (q := 645) G dL_law_644 rfl ?_
  refine bq_sld (q := 646) (k := i + 1) GS dL_law_645 rfl (bq_ixa rfl rfl) (by omega) (by omega) ?_
  refine bq_aload_n (q := 647) G rfl dL_law_646 rfl ?_
  refine bq_iload_n (q := 648) G rfl dL_law_647 rfl ?_
  refine bq_iconst (q := 649) (v := 2) G (by decide) dL_law_648 rfl ?_
  refine bq_iadd (q := 650) G dL_law_649 rfl ?_
  refine bq_sld (q := 651) (k := i + 2) GS dL_law_650 rfl (bq_ixa rfl rfl) (by omega) (by omega) ?_
  refine bq_callvI (q := 654) G dL_law_651 rfl cl_L_102 (c_X8_price hC) rfl ⟨Nat.le_of_ble_eq_true rfl, rfl⟩ rfl ⟨Nat.le_of_ble_eq_true rfl, Nat.le_of_ble_eq_true rfl⟩ (Nat.le_of_ble_eq_true rfl) ⟨Nat.le_of_ble_eq_true rfl, Nat.le_of_ble_eq_true rfl⟩ (fun r1 J L1 h1 => ?_)
  obtain ⟨rfl, hJ, rfl⟩ := h1
  have e77 : J 77 = I 77 := hJ 77 (by decide)
  have e79 : J 79 = I 79 := hJ 79 (by decide)
  have hP1 := hP.ck hJ
  refine bq_aload_n (q := 655) G rfl dL_law_654 rfl ?_
  refine bq_aload_n (q := 656) G rfl dL_law_655 rfl ?_
  refine bq_iload_n (q := 657) G rfl dL_law_656 rfl ?_
  refine bq_iconst (q := 658) (v := 1) G (by decide) dL_law_657 rfl ?_
  refine bq_iadd (q := 659) G dL_law_658 rfl ?_
  refine bq_sld (q := 660) (k := i + 1) GS dL_law_659 rfl (bq_ixa rfl rfl) (by omega) (by omega) ?_
  refine bq_aload_n (q := 661) G rfl dL_law_660 rfl ?_
  refine bq_iload_n (q := 662) G rfl dL_law_661 rfl ?_
  refine bq_iconst (q := 663) (v := 2) G (by decide) dL_law_662 rfl ?_
  refine bq_iadd (q := 664) G dL_law_663 rfl ?_
  refine bq_sld (q := 665) (k := i + 2) GS dL_law_664 rfl (bq_ixa rfl rfl) (by omega) (by omega) ?_
  refine bq_callvI (q := 668) G dL_law_665 rfl cl_L_105 (c_X9_price hP1.ar) rfl ⟨Nat.le_of_ble_eq_true rfl, rfl⟩ rfl ⟨Nat.le_of_ble_eq_true rfl, Nat.le_of_ble_eq_true rfl⟩ (Nat.le_of_ble_eq_true rfl) ⟨Nat.le_of_ble_eq_true rfl, Nat.le_of_ble_eq_true rfl⟩ (fun r2 K L2 h2 => ?_)
  obtain ⟨rfl, hK, rfl⟩ := h2
  have hI : INV K _ := ⟨⟨m, t, p, l, q, hP1.mk hK⟩, hL⟩
  refine bq_icmp_eq_t (t := 934) G dL_law_668 (by decide) (by rw [e77, e79]) ?_
  exact next _ _ hI
set_option maxHeartbeats 2000000 in
set_option maxRecDepth 100000 in
theorem lw_c22 {z b N i : Nat} {xs : Nat → Int32} {nm : String} {A : bq_A} {I : bq_IR} {L : bq_LR} (GS : bq_CxS b N xs cL_law RL 4 z room_1 nm A) (hN : N ≤ 3072) (hi : i + 6 ≤ N) (hv : INV I L) (next : ∀ (J : bq_IR) (L' : bq_LR), INV J L' → A 85 1785 934 [some (.ref b), some (.ref (z + 0)), some (.ref (z + 75)), some (.int (nI i))] [] 85 (bq_Rf z) J L') : A 85 1785 673 [some (.ref b), some (.ref (z + 0)), some (.ref (z + 75)), some (.int (nI i))] [] 85 (bq_Rf z) I L := by
  obtain ⟨⟨m, t, p, l, q, hP⟩, hL⟩ := hv
  have G := GS.cx
  have hC := hP.cs
  obtain ⟨a1, a2, a3, a4, a5⟩ := hP.2.2.1.1
  refine bq_aload_n (q := 674) G rfl dL_law_673 rfl ?_
  refine bq_aload_n (q := 675) G rfl dL_law_674 rfl ?_
  refine bq_iload_n (q := 676) G rfl dL_law_675 rfl ?_
  refine bq_iconst (q := 677) (v := 1) G (by decide) dL_law_676 rfl ?_
  refine bq_iadd (q := 678) G dL_law_677 rfl ?_
  refine bq_sld (q := 679) (k := i + 1) GS dL_law_678 rfl (bq_ixa rfl rfl) (by omega) (by omega) ?_
  refine bq_callvI (q := 682) G dL_law_679 rfl cl_L_106 (c_X8_heard hC) rfl ⟨Nat.le_of_ble_eq_true rfl, rfl⟩ rfl ⟨Nat.le_of_ble_eq_true rfl, Nat.le_of_ble_eq_true rfl⟩ (Nat.le_of_ble_eq_true rfl) ⟨Nat.le_of_ble_eq_true rfl, Nat.le_of_ble_eq_true rfl⟩ (fun r1 J L1 h1 => ?_)
  obtain ⟨rfl, hJ, rfl⟩ := h1
  have e77 : J 77 = I 77 := hJ 77 (by decide)
  have e79 : J 79 = I 79 := hJ 79 (by decide)
  have hP1 := hP.ck hJ
  refine bq_aload_n (q := 683) G rfl dL_law_682 rfl ?_
  refine bq_aload_n (q := 684) G rfl dL_law_683 rfl ?_
  refine bq_iload_n (q := 685) G rfl dL_law_684 rfl ?_
  refine bq_iconst (q := 686) (v := 1) G (by decide) dL_law_685 rfl ?_
  refine bq_iadd (q := 687) G dL_law_686 rfl ?_
  refine bq_sld (q := 688) (k := i + 1) GS dL_law_687 rfl (bq_ixa rfl rfl) (by omega) (by omega) ?_
  refine bq_callvI (q := 691) G dL_law_688 rfl cl_L_109 (c_X9_heard hP1.ar) rfl ⟨Nat.le_of_ble_eq_true rfl, rfl⟩ rfl ⟨Nat.le_of_ble_eq_true rfl, Nat.le_of_ble_eq_true rfl⟩ (Nat.le_of_ble_eq_true rfl) ⟨Nat.le_of_ble_eq_true rfl, Nat.le_of_ble_eq_true rfl⟩ (fun r2 K L2 h2 => ?_)
  obtain ⟨rfl, hK, rfl⟩ := h2
  have hI : INV K _ := ⟨⟨m, t, p, l, q, hP1.mk hK⟩, hL⟩
  refine bq_icmp_eq_t (t := 934) G dL_law_691 (by decide) (by rw [e77, e79]) ?_
  exact next _ _ hI
set_option maxHeartbeats 2000000 in
set_option maxRecDepth 100000 in
theorem lw_c23 {z b N i : Nat} {xs : Nat → Int32} {nm : String} {A : bq_A} {I : bq_IR} {L : bq_LR} (GS : bq_CxS b N xs cL_law RL 4 z room_1 nm A) (hN : N ≤ 3072) (hi : i + 6 ≤ N) (hv : INV I L) (next : ∀ (J : bq_IR) (L' : bq_LR), INV J L' → A 85 1785 934 [some (.ref b), some (.ref (z + 0)), some (.ref (z + 75)), some (.int (nI i))] [] 85 (bq_Rf z) J L') : A 85 1785 696 [some (.ref b), some (.ref (z + 0)), some (.ref (z + 75)), some (.int (nI i))] [] 85 (bq_Rf z) I L := by
  obtain ⟨⟨m, t, p, l, q, hP⟩, hL⟩ := hv
  have G := GS.cx
  have hC := hP.cs
  obtain ⟨a1, a2, a3, a4, a5⟩ := hP.2.2.1.1
  refine bq_aload_n (q := 697) G rfl dL_law_696 rfl ?_
  refine bq_aload_n (q := 698) G rfl dL_law_697 rfl ?_
  refine bq_iload_n (q := 699) G rfl dL_law_698 rfl ?_
  refine bq_iconst (q := 700) (v := 1) G (by decide) dL_law_699 rfl ?_
  refine bq_iadd (q := 701) G dL_law_700 rfl ?_
  refine bq_sld (q := 702) (k := i + 1) GS dL_law_701 rfl (bq_ixa rfl rfl) (by omega) (by omega) ?_
  refine bq_aload_n (q := 703) G rfl dL_law_702 rfl ?_
  refine bq_iload_n (q := 704) G rfl dL_law_703 rfl ?_
  refine bq_iconst (q := 705) (v := 2) G (by decide) dL_law_704 rfl ?_
  refine bq_iadd (q := 706) G dL_law_705 rfl ?_
  refine bq_sld (q := 707) (k := i + 2) GS dL_law_706 rfl (bq_ixa rfl rfl) (by omega) (by omega) ?_
  refine bq_callvI (q := 710) G dL_law_707 rfl cl_L_110 (c_X8_measured (t := q) hP.2.2.2.2.1.1.1 hP.2.2.2.2.1.1.2.2) rfl ⟨Nat.le_of_ble_eq_true rfl, rfl⟩ rfl ⟨Nat.le_of_ble_eq_true rfl, Nat.le_of_ble_eq_true rfl⟩ (Nat.le_of_ble_eq_true rfl) ⟨Nat.le_of_ble_eq_true rfl, Nat.le_of_ble_eq_true rfl⟩ (fun r1 J L1 h1 => ?_)
  have e75 : J 75 = I 75 := by
    have h := h1.1
    split at h
    · split at h
      · rw [h.2]
      · rw [h.2, bq_sr_n (by decide), bq_sr_n (by decide), bq_sr_n (by decide)]
    · rw [h.2]
  refine bq_aload_n (q := 711) G rfl dL_law_710 rfl ?_
  refine bq_aload_n (q := 712) G rfl dL_law_711 rfl ?_
  refine bq_iload_n (q := 713) G rfl dL_law_712 rfl ?_
  refine bq_iconst (q := 714) (v := 1) G (by decide) dL_law_713 rfl ?_
  refine bq_iadd (q := 715) G dL_law_714 rfl ?_
  refine bq_sld (q := 716) (k := i + 1) GS dL_law_715 rfl (bq_ixa rfl rfl) (by omega) (by omega) ?_
  refine bq_aload_n (q := 717) G rfl dL_law_716 rfl ?_
  refine bq_iload_n (q := 718) G rfl dL_law_717 rfl ?_
  refine bq_iconst (q := 719) (v := 2) G (by decide) dL_law_718 rfl ?_
  refine bq_iadd (q := 720) G dL_law_719 rfl ?_
  refine bq_sld (q := 721) (k := i + 2) GS dL_law_720 rfl (bq_ixa rfl rfl) (by omega) (by omega) ?_
  refine bq_callvI (q := 724) G dL_law_721 rfl cl_L_113 (c_X9_measured (t := q) (by rw [e75]; exact hP.2.2.2.2.1.1.2.1) hP.2.2.2.2.1.1.2.2) rfl ⟨Nat.le_of_ble_eq_true rfl, rfl⟩ rfl ⟨Nat.le_of_ble_eq_true rfl, Nat.le_of_ble_eq_true rfl⟩ (Nat.le_of_ble_eq_true rfl) ⟨Nat.le_of_ble_eq_true rfl, Nat.le_of_ble_eq_true rfl⟩ (fun r2 K L2 h2 => ?_)
  obtain ⟨he, m1, t1, p1, l1, q1, hP1⟩ := op_measured hP h1.1 h2.1
  have hI : INV K L2 := ⟨⟨m1, t1, p1, l1, q1, hP1⟩, by rw [h2.2, h1.2]; exact hL⟩
  refine bq_icmp_eq_t (t := 934) G dL_law_724 (by decide) he ?_
  exact next _ _ hI
set_option maxHeartbeats 2000000 in
set_option maxRecDepth 100000 in
theorem lw_c24 {z b N i : Nat} {xs : Nat → Int32} {nm : String} {A : bq_A} {I : bq_IR} {L : bq_LR} (GS : bq_CxS b N xs cL_law RL 4 z room_1 nm A) (hN : N ≤ 3072) (hi : i + 6 ≤ N) (hv : INV I L) (next : ∀ (J : bq_IR) (L' : bq_LR), INV J L' → A 85 1785 934 [some (.ref b), some (.ref (z + 0)), some (.ref (z + 75)), some (.int (nI i))] [] 85 (bq_Rf z) J L') : A 85 1785 729 [some (.ref b), some (.ref (z + 0)), some (.ref (z + 75)), some (.int (nI i))] [] 85 (bq_Rf z) I L := by
  obtain ⟨⟨m, t, p, l, q, hP⟩, hL⟩ := hv
  have G := GS.cx
  have hC := hP.cs
  obtain ⟨a1, a2, a3, a4, a5⟩ := hP.2.2.1.1
  refine bq_aload_n (q := 730) G rfl dL_law_729 rfl ?_
  refine bq_callv (q := 733) G dL_law_730 rfl cl_L_114 (c_X8_forget) rfl ⟨Nat.le_of_ble_eq_true rfl, rfl⟩ rfl ⟨Nat.le_of_ble_eq_true rfl, Nat.le_of_ble_eq_true rfl⟩ (Nat.le_of_ble_eq_true rfl) ⟨Nat.le_of_ble_eq_true rfl, Nat.le_of_ble_eq_true rfl⟩ rfl ?_
  refine bq_aload_n (q := 734) G rfl dL_law_733 rfl ?_
  refine bq_callv (q := 737) G dL_law_734 rfl cl_L_117 (c_X9_forget) rfl ⟨Nat.le_of_ble_eq_true rfl, rfl⟩ rfl ⟨Nat.le_of_ble_eq_true rfl, Nat.le_of_ble_eq_true rfl⟩ (Nat.le_of_ble_eq_true rfl) ⟨Nat.le_of_ble_eq_true rfl, Nat.le_of_ble_eq_true rfl⟩ rfl ?_
  obtain ⟨he, m1, t1, p1, l1, q1, hP1⟩ := op_forget hP rfl rfl
  have hI : INV _ L := ⟨⟨m1, t1, p1, l1, q1, hP1⟩, hL⟩
  refine bq_icmp_eq_t (t := 934) G dL_law_737 (by decide) he ?_
  exact next _ _ hI
set_option maxHeartbeats 2000000 in
set_option maxRecDepth 100000 in
theorem lw_c25 {z b N i : Nat} {xs : Nat → Int32} {nm : String} {A : bq_A} {I : bq_IR} {L : bq_LR} (GS : bq_CxS b N xs cL_law RL 4 z room_1 nm A) (hN : N ≤ 3072) (hi : i + 6 ≤ N) (hv : INV I L) (next : ∀ (J : bq_IR) (L' : bq_LR), INV J L' → A 85 1785 934 [some (.ref b), some (.ref (z + 0)), some (.ref (z + 75)), some (.int (nI i))] [] 85 (bq_Rf z) J L') : A 85 1785 742 [some (.ref b), some (.ref (z + 0)), some (.ref (z + 75)), some (.int (nI i))] [] 85 (bq_Rf z) I L := by
  obtain ⟨⟨m, t, p, l, q, hP⟩, hL⟩ := hv
  have G := GS.cx
  have hC := hP.cs
  obtain ⟨a1, a2, a3, a4, a5⟩ := hP.2.2.1.1
  have hm8 := hP.1.1.2.1.2
  have hB : ∀ j, j < 59 → gs_beg (I 77) m (I 79) j = cd_B (I 77) m j := cd_beg (fun _ _ => rfl) hm8
  refine bq_aload_n (q := 743) G rfl dL_law_742 rfl ?_
  refine bq_callvI (q := 746) G dL_law_743 rfl cl_L_118 (c_X8_splitFirst (q := q) (m := m) (M := I 83) (T := I 77) (B := gs_beg (I 77) m (I 79)) (hP.1.2.1 4 (by decide)) (hP.1.2.1 2 (by decide)) (hP.1.2.2.2.1.row (fun j hj _ _ => hB j hj)) ((cd_ok hP.1.1).1.cg hB) hP.1.1.1.2.2.1.1 hm8 (fun b hb => (hB _ (by omega)).trans (cd_there hm8 hb)) hP.2.2.2.2.1.1.1 hP.2.2.2.2.1.1.2.2 hP.2.2.2.2.1.2) rfl ⟨Nat.le_of_ble_eq_true rfl, rfl⟩ rfl ⟨Nat.le_of_ble_eq_true rfl, Nat.le_of_ble_eq_true rfl⟩ (Nat.le_of_ble_eq_true rfl) ⟨Nat.le_of_ble_eq_true rfl, Nat.le_of_ble_eq_true rfl⟩ (fun r1 J L1 h1 => ?_)
  obtain ⟨hr, hJ, rfl⟩ := h1
  have e77 : J 77 = I 77 := hJ 77 (by decide)
  have e79 : J 79 = I 79 := hJ 79 (by decide)
  have hP1 := hP.ck hJ
  have e83 : J 83 = I 83 := hJ 83 (by decide)
  refine bq_aload_n (q := 747) G rfl dL_law_746 rfl ?_
  refine bq_callvI (q := 750) G dL_law_747 rfl cl_L_121 (c_X9_splitFirst (q := q) (m := m) hP1.ar hP1.2.2.2.2.1.1.2.1 hP1.2.2.2.2.1.1.2.2 hP1.1.1.2.1.1 hm8) rfl ⟨Nat.le_of_ble_eq_true rfl, rfl⟩ rfl ⟨Nat.le_of_ble_eq_true rfl, Nat.le_of_ble_eq_true rfl⟩ (Nat.le_of_ble_eq_true rfl) ⟨Nat.le_of_ble_eq_true rfl, Nat.le_of_ble_eq_true rfl⟩ (fun r2 K L2 h2 => ?_)
  obtain ⟨hr2, hK, rfl⟩ := h2
  rw [e77, e79, e83] at hr2
  have hI : INV K _ := ⟨⟨m, t, p, l, q, hP1.mk hK⟩, hL⟩
  refine bq_icmp_eq_t (t := 934) G dL_law_750 (by decide) (gs_sf_u m hr hr2) ?_
  exact next _ _ hI
set_option maxHeartbeats 2000000 in
set_option maxRecDepth 100000 in
theorem lw_c26 {z b N i : Nat} {xs : Nat → Int32} {nm : String} {A : bq_A} {I : bq_IR} {L : bq_LR} (GS : bq_CxS b N xs cL_law RL 4 z room_1 nm A) (hN : N ≤ 3072) (hi : i + 6 ≤ N) (hv : INV I L) (next : ∀ (J : bq_IR) (L' : bq_LR), INV J L' → A 85 1785 934 [some (.ref b), some (.ref (z + 0)), some (.ref (z + 75)), some (.int (nI i))] [] 85 (bq_Rf z) J L') : A 85 1785 755 [some (.ref b), some (.ref (z + 0)), some (.ref (z + 75)), some (.int (nI i))] [] 85 (bq_Rf z) I L := by
  obtain ⟨⟨m, t, p, l, q, hP⟩, hL⟩ := hv
  have G := GS.cx
  have hC := hP.cs
  obtain ⟨a1, a2, a3, a4, a5⟩ := hP.2.2.1.1
  refine bq_aload_n (q := 756) G rfl dL_law_755 rfl ?_
  refine bq_aload_n (q := 757) G rfl dL_law_756 rfl ?_
  refine bq_iload_n (q := 758) G rfl dL_law_757 rfl ?_
  refine bq_iconst (q := 759) (v := 1) G (by decide) dL_law_758 rfl ?_
  refine bq_iadd (q := 760) G dL_law_759 rfl ?_
  refine bq_sld (q := 761) (k := i + 1) GS dL_law_760 rfl (bq_ixa rfl rfl) (by omega) (by omega) ?_
  refine bq_aload_n (q := 762) G rfl dL_law_761 rfl ?_
  refine bq_iload_n (q := 763) G rfl dL_law_762 rfl ?_
  refine bq_iconst (q := 764) (v := 2) G (by decide) dL_law_763 rfl ?_
  refine bq_iadd (q := 765) G dL_law_764 rfl ?_
  refine bq_sld (q := 766) (k := i + 2) GS dL_law_765 rfl (bq_ixa rfl rfl) (by omega) (by omega) ?_
  refine bq_aload_n (q := 767) G rfl dL_law_766 rfl ?_
  refine bq_iload_n (q := 768) G rfl dL_law_767 rfl ?_
  refine bq_iconst (q := 769) (v := 3) G (by decide) dL_law_768 rfl ?_
  refine bq_iadd (q := 770) G dL_law_769 rfl ?_
  refine bq_sld (q := 771) (k := i + 3) GS dL_law_770 rfl (bq_ixa rfl rfl) (by omega) (by omega) ?_
  refine bq_aload_n (q := 772) G rfl dL_law_771 rfl ?_
  refine bq_iload_n (q := 773) G rfl dL_law_772 rfl ?_
  refine bq_iconst (q := 774) (v := 4) G (by decide) dL_law_773 rfl ?_
  refine bq_iadd (q := 775) G dL_law_774 rfl ?_
  refine bq_sld (q := 776) (k := i + 4) GS dL_law_775 rfl (bq_ixa rfl rfl) (by omega) (by omega) ?_
  refine bq_aload_n (q := 777) G rfl dL_law_776 rfl ?_
  refine bq_iload_n (q := 778) G rfl dL_law_777 rfl ?_
  refine bq_iconst (q := 779) (v := 5) G (by decide) dL_law_778 rfl ?_
  refine bq_iadd (q := 780) G dL_law_779 rfl ?_
  refine bq_sld (q := 781) (k := i + 5) GS dL_law_780 rfl (bq_ixa rfl rfl) (by omega) (by omega) ?_
  refine bq_callvI (q := 784) G dL_law_781 rfl cl_L_122 (c_X8_odds hC) rfl ⟨Nat.le_of_ble_eq_true rfl, rfl⟩ rfl ⟨Nat.le_of_ble_eq_true rfl, Nat.le_of_ble_eq_true rfl⟩ (Nat.le_of_ble_eq_true rfl) ⟨Nat.le_of_ble_eq_true rfl, Nat.le_of_ble_eq_true rfl⟩ (fun r1 J L1 h1 => ?_)
  obtain ⟨hr, rfl, hL1⟩ := h1
  refine bq_aload_n (q := 785) G rfl dL_law_784 rfl ?_
  refine bq_aload_n (q := 786) G rfl dL_law_785 rfl ?_
  refine bq_iload_n (q := 787) G rfl dL_law_786 rfl ?_
  refine bq_iconst (q := 788) (v := 1) G (by decide) dL_law_787 rfl ?_
  refine bq_iadd (q := 789) G dL_law_788 rfl ?_
  refine bq_sld (q := 790) (k := i + 1) GS dL_law_789 rfl (bq_ixa rfl rfl) (by omega) (by omega) ?_
  refine bq_aload_n (q := 791) G rfl dL_law_790 rfl ?_
  refine bq_iload_n (q := 792) G rfl dL_law_791 rfl ?_
  refine bq_iconst (q := 793) (v := 2) G (by decide) dL_law_792 rfl ?_
  refine bq_iadd (q := 794) G dL_law_793 rfl ?_
  refine bq_sld (q := 795) (k := i + 2) GS dL_law_794 rfl (bq_ixa rfl rfl) (by omega) (by omega) ?_
  refine bq_aload_n (q := 796) G rfl dL_law_795 rfl ?_
  refine bq_iload_n (q := 797) G rfl dL_law_796 rfl ?_
  refine bq_iconst (q := 798) (v := 3) G (by decide) dL_law_797 rfl ?_
  refine bq_iadd (q := 799) G dL_law_798 rfl ?_
  refine bq_sld (q := 800) (k := i + 3) GS dL_law_799 rfl (bq_ixa rfl rfl) (by omega) (by omega) ?_
  refine bq_aload_n (q := 801) G rfl dL_law_800 rfl ?_
  refine bq_iload_n (q := 802) G rfl dL_law_801 rfl ?_
  refine bq_iconst (q := 803) (v := 4) G (by decide) dL_law_802 rfl ?_
  refine bq_iadd (q := 804) G dL_law_803 rfl ?_
  refine bq_sld (q := 805) (k := i + 4) GS dL_law_804 rfl (bq_ixa rfl rfl) (by omega) (by omega) ?_
  refine bq_aload_n (q := 806) G rfl dL_law_805 rfl ?_
  refine bq_iload_n (q := 807) G rfl dL_law_806 rfl ?_
  refine bq_iconst (q := 808) (v := 5) G (by decide) dL_law_807 rfl ?_
  refine bq_iadd (q := 809) G dL_law_808 rfl ?_
  refine bq_sld (q := 810) (k := i + 5) GS dL_law_809 rfl (bq_ixa rfl rfl) (by omega) (by omega) ?_
  refine bq_callvI (q := 813) G dL_law_810 rfl cl_L_126 (c_X9_odds hP.2.1.2.1) rfl ⟨Nat.le_of_ble_eq_true rfl, rfl⟩ rfl ⟨Nat.le_of_ble_eq_true rfl, Nat.le_of_ble_eq_true rfl⟩ (Nat.le_of_ble_eq_true rfl) ⟨Nat.le_of_ble_eq_true rfl, Nat.le_of_ble_eq_true rfl⟩ (fun r2 K L2 h2 => ?_)
  obtain ⟨hr2, rfl, rfl⟩ := h2
  have hI : INV K L2 := ⟨⟨m, t, p, l, q, hP⟩, by rw [hL1 74 (by decide) (by decide), hL1 75 (by decide) (by decide)]; exact hL⟩
  refine bq_icmp_eq_t (t := 934) G dL_law_813 (by decide) (gs_odds_u hr hr2) ?_
  exact next _ _ hI
set_option maxHeartbeats 2000000 in
set_option maxRecDepth 100000 in
theorem lw_c27 {z b N i : Nat} {xs : Nat → Int32} {nm : String} {A : bq_A} {I : bq_IR} {L : bq_LR} (GS : bq_CxS b N xs cL_law RL 4 z room_1 nm A) (hN : N ≤ 3072) (hi : i + 6 ≤ N) (hv : INV I L) (next : ∀ (J : bq_IR) (L' : bq_LR), INV J L' → A 85 1785 934 [some (.ref b), some (.ref (z + 0)), some (.ref (z + 75)), some (.int (nI i))] [] 85 (bq_Rf z) J L') : A 85 1785 818 [some (.ref b), some (.ref (z + 0)), some (.ref (z + 75)), some (.int (nI i))] [] 85 (bq_Rf z) I L := by
  obtain ⟨⟨m, t, p, l, q, hP⟩, hL⟩ := hv
  have G := GS.cx
  have hC := hP.cs
  obtain ⟨a1, a2, a3, a4, a5⟩ := hP.2.2.1.1
  refine bq_aload_n (q := 819) G rfl dL_law_818 rfl ?_
  refine bq_aload_n (q := 820) G rfl dL_law_819 rfl ?_
  refine bq_iload_n (q := 821) G rfl dL_law_820 rfl ?_
  refine bq_iconst (q := 822) (v := 1) G (by decide) dL_law_821 rfl ?_
  refine bq_iadd (q := 823) G dL_law_822 rfl ?_
  refine bq_sld (q := 824) (k := i + 1) GS dL_law_823 rfl (bq_ixa rfl rfl) (by omega) (by omega) ?_
  refine bq_aload_n (q := 825) G rfl dL_law_824 rfl ?_
  refine bq_iload_n (q := 826) G rfl dL_law_825 rfl ?_
  refine bq_iconst (q := 827) (v := 2) G (by decide) dL_law_826 rfl ?_
  refine bq_iadd (q := 828) G dL_law_827 rfl ?_
  refine bq_sld (q := 829) (k := i + 2) GS dL_law_828 rfl (bq_ixa rfl rfl) (by omega) (by omega) ?_
  refine bq_callvI (q := 832) G dL_law_829 rfl cl_L_127 (c_X8_rate hC) rfl ⟨Nat.le_of_ble_eq_true rfl, rfl⟩ rfl ⟨Nat.le_of_ble_eq_true rfl, Nat.le_of_ble_eq_true rfl⟩ (Nat.le_of_ble_eq_true rfl) ⟨Nat.le_of_ble_eq_true rfl, Nat.le_of_ble_eq_true rfl⟩ (fun r1 J L1 h1 => ?_)
  obtain ⟨rfl, h1⟩ := h1
  refine bq_aload_n (q := 833) G rfl dL_law_832 rfl ?_
  refine bq_aload_n (q := 834) G rfl dL_law_833 rfl ?_
  refine bq_iload_n (q := 835) G rfl dL_law_834 rfl ?_
  refine bq_iconst (q := 836) (v := 1) G (by decide) dL_law_835 rfl ?_
  refine bq_iadd (q := 837) G dL_law_836 rfl ?_
  refine bq_sld (q := 838) (k := i + 1) GS dL_law_837 rfl (bq_ixa rfl rfl) (by omega) (by omega) ?_
  refine bq_aload_n (q := 839) G rfl dL_law_838 rfl ?_
  refine bq_iload_n (q := 840) G rfl dL_law_839 rfl ?_
  refine bq_iconst (q := 841) (v := 2) G (by decide) dL_law_840 rfl ?_
  refine bq_iadd (q := 842) G dL_law_841 rfl ?_
  refine bq_sld (q := 843) (k := i + 2) GS dL_law_842 rfl (bq_ixa rfl rfl) (by omega) (by omega) ?_
  refine bq_callvI (q := 846) G dL_law_843 rfl cl_L_130 (c_X9_rate hP.ar) rfl ⟨Nat.le_of_ble_eq_true rfl, rfl⟩ rfl ⟨Nat.le_of_ble_eq_true rfl, Nat.le_of_ble_eq_true rfl⟩ (Nat.le_of_ble_eq_true rfl) ⟨Nat.le_of_ble_eq_true rfl, Nat.le_of_ble_eq_true rfl⟩ (fun r2 K L2 h2 => ?_)
  obtain ⟨rfl, h2⟩ := h2
  have hboth : r1 = r2 ∧ L2 74 0 = L2 75 0 := by
    rcases h1 with ⟨n1, rfl, rfl⟩ | ⟨k, hk, e, hc, rfl, rfl⟩
    · rcases h2 with ⟨_, rfl, rfl⟩ | ⟨k, hk, e, hc, _⟩
      · exact ⟨rfl, hL⟩
      · exact absurd ⟨hc, by rw [e]; exact ⟨nI_pos' (by omega), nI_le (b := 7) (by omega) (by decide)⟩⟩ n1
    · rcases h2 with ⟨n2, _⟩ | ⟨k', hk', e', hc', rfl, rfl⟩
      · exact absurd ⟨hc, by rw [e]; exact ⟨nI_pos' (by omega), nI_le (b := 7) (by omega) (by decide)⟩⟩ n2
      · have := op_k hk hk' e e'
        subst this
        refine ⟨rfl, ?_⟩
        rw [bq_sr_n (a := 75) (b := 74) (by decide), bq_sr_s, bq_sr_s, bq_sr_n (a := 74) (b := 75) (by decide), pk_uLs, pk_uLs, hL]
  have hI : INV _ L2 := ⟨⟨m, t, p, l, q, hP⟩, hboth.2⟩
  refine bq_icmp_eq_t (t := 934) G dL_law_846 (by decide) hboth.1 ?_
  exact next _ _ hI
set_option maxHeartbeats 2000000 in
set_option maxRecDepth 100000 in
theorem lw_c28 {z b N i : Nat} {xs : Nat → Int32} {nm : String} {A : bq_A} {I : bq_IR} {L : bq_LR} (GS : bq_CxS b N xs cL_law RL 4 z room_1 nm A) (hN : N ≤ 3072) (hi : i + 6 ≤ N) (hv : INV I L) (next : ∀ (J : bq_IR) (L' : bq_LR), INV J L' → A 85 1785 934 [some (.ref b), some (.ref (z + 0)), some (.ref (z + 75)), some (.int (nI i))] [] 85 (bq_Rf z) J L') : A 85 1785 851 [some (.ref b), some (.ref (z + 0)), some (.ref (z + 75)), some (.int (nI i))] [] 85 (bq_Rf z) I L := by
  obtain ⟨⟨m, t, p, l, q, hP⟩, hL⟩ := hv
  have G := GS.cx
  have hC := hP.cs
  obtain ⟨a1, a2, a3, a4, a5⟩ := hP.2.2.1.1
  refine bq_aload_n (q := 852) G rfl dL_law_851 rfl ?_
  refine bq_aload_n (q := 853) G rfl dL_law_852 rfl ?_
  refine bq_iload_n (q := 854) G rfl dL_law_853 rfl ?_
  refine bq_iconst (q := 855) (v := 1) G (by decide) dL_law_854 rfl ?_
  refine bq_iadd (q := 856) G dL_law_855 rfl ?_
  refine bq_sld (q := 857) (k := i + 1) GS dL_law_856 rfl (bq_ixa rfl rfl) (by omega) (by omega) ?_
  refine bq_callvI (q := 860) G dL_law_857 rfl cl_L_131 (c_X8_keep (T := I 77) (S := I 79) hC) rfl ⟨Nat.le_of_ble_eq_true rfl, rfl⟩ rfl ⟨Nat.le_of_ble_eq_true rfl, Nat.le_of_ble_eq_true rfl⟩ (Nat.le_of_ble_eq_true rfl) ⟨Nat.le_of_ble_eq_true rfl, Nat.le_of_ble_eq_true rfl⟩ (fun r1 J L1 h1 => ?_)
  refine bq_aload_n (q := 861) G rfl dL_law_860 rfl ?_
  refine bq_aload_n (q := 862) G rfl dL_law_861 rfl ?_
  refine bq_iload_n (q := 863) G rfl dL_law_862 rfl ?_
  refine bq_iconst (q := 864) (v := 1) G (by decide) dL_law_863 rfl ?_
  refine bq_iadd (q := 865) G dL_law_864 rfl ?_
  refine bq_sld (q := 866) (k := i + 1) GS dL_law_865 rfl (bq_ixa rfl rfl) (by omega) (by omega) ?_
  refine bq_callvI (q := 869) G dL_law_866 rfl cl_L_134 (c_X9_keep) rfl ⟨Nat.le_of_ble_eq_true rfl, rfl⟩ rfl ⟨Nat.le_of_ble_eq_true rfl, Nat.le_of_ble_eq_true rfl⟩ (Nat.le_of_ble_eq_true rfl) ⟨Nat.le_of_ble_eq_true rfl, Nat.le_of_ble_eq_true rfl⟩ (fun r2 K L2 h2 => ?_)
  obtain ⟨he, m1, t1, p1, l1, q1, hP1⟩ := op_keep hP h1.1 h2.1
  have hI : INV K L2 := ⟨⟨m1, t1, p1, l1, q1, hP1⟩, by rw [h2.2, h1.2]; exact hL⟩
  refine bq_icmp_eq_t (t := 934) G dL_law_869 (by decide) he ?_
  exact next _ _ hI
set_option maxHeartbeats 2000000 in
set_option maxRecDepth 100000 in
theorem lw_c29 {z b N i : Nat} {xs : Nat → Int32} {nm : String} {A : bq_A} {I : bq_IR} {L : bq_LR} (GS : bq_CxS b N xs cL_law RL 4 z room_1 nm A) (hN : N ≤ 3072) (hi : i + 6 ≤ N) (hv : INV I L) (next : ∀ (J : bq_IR) (L' : bq_LR), INV J L' → A 85 1785 934 [some (.ref b), some (.ref (z + 0)), some (.ref (z + 75)), some (.int (nI i))] [] 85 (bq_Rf z) J L') : A 85 1785 874 [some (.ref b), some (.ref (z + 0)), some (.ref (z + 75)), some (.int (nI i))] [] 85 (bq_Rf z) I L := by
  obtain ⟨⟨m, t, p, l, q, hP⟩, hL⟩ := hv
  have G := GS.cx
  have hC := hP.cs
  obtain ⟨a1, a2, a3, a4, a5⟩ := hP.2.2.1.1
  refine bq_aload_n (q := 875) G rfl dL_law_874 rfl ?_
  refine bq_aload_n (q := 876) G rfl dL_law_875 rfl ?_
  refine bq_iload_n (q := 877) G rfl dL_law_876 rfl ?_
  refine bq_iconst (q := 878) (v := 1) G (by decide) dL_law_877 rfl ?_
  refine bq_iadd (q := 879) G dL_law_878 rfl ?_
  refine bq_sld (q := 880) (k := i + 1) GS dL_law_879 rfl (bq_ixa rfl rfl) (by omega) (by omega) ?_
  refine bq_callvI (q := 883) G dL_law_880 rfl cl_L_135 (c_X8_back (V := fun i j => I 81 (59 * i + j)) (fun i hi hn => ((hP.2.2.2.1 i hi).2 (by rw [← (hP.2.2.2.1 i hi).1]; exact hn)).1)) rfl ⟨Nat.le_of_ble_eq_true rfl, rfl⟩ rfl ⟨Nat.le_of_ble_eq_true rfl, Nat.le_of_ble_eq_true rfl⟩ (Nat.le_of_ble_eq_true rfl) ⟨Nat.le_of_ble_eq_true rfl, Nat.le_of_ble_eq_true rfl⟩ (fun r1 J L1 h1 => ?_)
  refine bq_aload_n (q := 884) G rfl dL_law_883 rfl ?_
  refine bq_aload_n (q := 885) G rfl dL_law_884 rfl ?_
  refine bq_iload_n (q := 886) G rfl dL_law_885 rfl ?_
  refine bq_iconst (q := 887) (v := 1) G (by decide) dL_law_886 rfl ?_
  refine bq_iadd (q := 888) G dL_law_887 rfl ?_
  refine bq_sld (q := 889) (k := i + 1) GS dL_law_888 rfl (bq_ixa rfl rfl) (by omega) (by omega) ?_
  refine bq_callvI (q := 892) G dL_law_889 rfl cl_L_138 (c_X9_back) rfl ⟨Nat.le_of_ble_eq_true rfl, rfl⟩ rfl ⟨Nat.le_of_ble_eq_true rfl, Nat.le_of_ble_eq_true rfl⟩ (Nat.le_of_ble_eq_true rfl) ⟨Nat.le_of_ble_eq_true rfl, Nat.le_of_ble_eq_true rfl⟩ (fun r2 K L2 h2 => ?_)
  obtain ⟨he, m1, t1, p1, l1, q1, hP1⟩ := op_back hP h1.1 h2.1
  have hI : INV K L2 := ⟨⟨m1, t1, p1, l1, q1, hP1⟩, by rw [h2.2, h1.2]; exact hL⟩
  refine bq_icmp_eq_t (t := 934) G dL_law_892 (by decide) he ?_
  exact next _ _ hI
set_option maxHeartbeats 2000000 in
set_option maxRecDepth 100000 in
theorem lw_c30 {z b N i : Nat} {xs : Nat → Int32} {nm : String} {A : bq_A} {I : bq_IR} {L : bq_LR} (GS : bq_CxS b N xs cL_law RL 4 z room_1 nm A) (hN : N ≤ 3072) (hi : i + 6 ≤ N) (hv : INV I L) (next : ∀ (J : bq_IR) (L' : bq_LR), INV J L' → A 85 1785 934 [some (.ref b), some (.ref (z + 0)), some (.ref (z + 75)), some (.int (nI i))] [] 85 (bq_Rf z) J L') : A 85 1785 897 [some (.ref b), some (.ref (z + 0)), some (.ref (z + 75)), some (.int (nI i))] [] 85 (bq_Rf z) I L := by
  obtain ⟨⟨m, t, p, l, q, hP⟩, hL⟩ := hv
  have G := GS.cx
  have hC := hP.cs
  obtain ⟨a1, a2, a3, a4, a5⟩ := hP.2.2.1.1
  refine bq_aload_n (q := 898) G rfl dL_law_897 rfl ?_
  refine bq_aload_n (q := 899) G rfl dL_law_898 rfl ?_
  refine bq_iload_n (q := 900) G rfl dL_law_899 rfl ?_
  refine bq_iconst (q := 901) (v := 1) G (by decide) dL_law_900 rfl ?_
  refine bq_iadd (q := 902) G dL_law_901 rfl ?_
  refine bq_sld (q := 903) (k := i + 1) GS dL_law_902 rfl (bq_ixa rfl rfl) (by omega) (by omega) ?_
  refine bq_callv (q := 906) G dL_law_903 rfl cl_L_139 (c_X8_count (T := I 77) (S := I 79) hC (hP.1.2.2.1.trans hP.1.1.2.1.1.symm)) rfl ⟨Nat.le_of_ble_eq_true rfl, rfl⟩ rfl ⟨Nat.le_of_ble_eq_true rfl, Nat.le_of_ble_eq_true rfl⟩ (Nat.le_of_ble_eq_true rfl) ⟨Nat.le_of_ble_eq_true rfl, Nat.le_of_ble_eq_true rfl⟩ rfl ?_
  refine bq_aload_n (q := 907) G rfl dL_law_906 rfl ?_
  refine bq_aload_n (q := 908) G rfl dL_law_907 rfl ?_
  refine bq_iload_n (q := 909) G rfl dL_law_908 rfl ?_
  refine bq_iconst (q := 910) (v := 1) G (by decide) dL_law_909 rfl ?_
  refine bq_iadd (q := 911) G dL_law_910 rfl ?_
  refine bq_sld (q := 912) (k := i + 1) GS dL_law_911 rfl (bq_ixa rfl rfl) (by omega) (by omega) ?_
  refine bq_callv (q := 915) G dL_law_912 rfl cl_L_142 (c_X9_count) rfl ⟨Nat.le_of_ble_eq_true rfl, rfl⟩ rfl ⟨Nat.le_of_ble_eq_true rfl, Nat.le_of_ble_eq_true rfl⟩ (Nat.le_of_ble_eq_true rfl) ⟨Nat.le_of_ble_eq_true rfl, Nat.le_of_ble_eq_true rfl⟩ rfl ?_
  have hI : INV I L := ⟨⟨m, t, p, l, q, hP⟩, hL⟩
  refine bq_icmp_eq_t (t := 934) G dL_law_915 (by decide) (by rw [hP.2.2.2.2.1.1.1, hP.2.2.2.2.1.1.2.1, hP.2.2.2.2.2.1.1, hP.2.2.2.2.2.1.2.1]) ?_
  exact next _ _ hI
set_option maxHeartbeats 2000000 in
set_option maxRecDepth 100000 in
theorem lw_c31 {z b N i : Nat} {xs : Nat → Int32} {nm : String} {A : bq_A} {I : bq_IR} {L : bq_LR} (GS : bq_CxS b N xs cL_law RL 4 z room_1 nm A) (hN : N ≤ 3072) (hi : i + 6 ≤ N) (hv : INV I L) (next : ∀ (J : bq_IR) (L' : bq_LR), INV J L' → A 85 1785 934 [some (.ref b), some (.ref (z + 0)), some (.ref (z + 75)), some (.int (nI i))] [] 85 (bq_Rf z) J L') : A 85 1785 920 [some (.ref b), some (.ref (z + 0)), some (.ref (z + 75)), some (.int (nI i))] [] 85 (bq_Rf z) I L := by
  obtain ⟨⟨m, t, p, l, q, hP⟩, hL⟩ := hv
  have G := GS.cx
  have hC := hP.cs
  obtain ⟨a1, a2, a3, a4, a5⟩ := hP.2.2.1.1
  refine bq_aload_n (q := 921) G rfl dL_law_920 rfl ?_
  refine bq_callv (q := 924) G dL_law_921 rfl cl_L_143 (c_X8_trace) rfl ⟨Nat.le_of_ble_eq_true rfl, rfl⟩ rfl ⟨Nat.le_of_ble_eq_true rfl, Nat.le_of_ble_eq_true rfl⟩ (Nat.le_of_ble_eq_true rfl) ⟨Nat.le_of_ble_eq_true rfl, Nat.le_of_ble_eq_true rfl⟩ rfl ?_
  refine bq_aload_n (q := 925) G rfl dL_law_924 rfl ?_
  refine bq_callv (q := 928) G dL_law_925 rfl cl_L_147 (c_X9_trace) rfl ⟨Nat.le_of_ble_eq_true rfl, rfl⟩ rfl ⟨Nat.le_of_ble_eq_true rfl, Nat.le_of_ble_eq_true rfl⟩ (Nat.le_of_ble_eq_true rfl) ⟨Nat.le_of_ble_eq_true rfl, Nat.le_of_ble_eq_true rfl⟩ rfl ?_
  have hI : INV I L := ⟨⟨m, t, p, l, q, hP⟩, hL⟩
  refine bq_lcmp (q := 929) G dL_law_928 rfl ?_
  refine bq_if_eq_t (t := 934) G dL_law_929 (by decide) ((lg_cmp_eq _ _).mpr hL) ?_
  exact next _ _ hI
