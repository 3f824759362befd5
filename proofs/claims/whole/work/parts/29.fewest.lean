def gs_bit (s : Int32) (k : Nat) : Int32 := s >>> (nI k &&& 31) &&& 1
/-- what may be chosen, how the row is then -/
def gs_okb (bu : Int32) (S : Nat → Int32) (s : Int32) (b : Nat) : Prop := gs_bit s b = 0 ∨ (S (51 + b) = 1 ∧ (if bu = 0 then S (27 + b) = 0 else S (43 + b) = 0))
def gs_md (bu s : Int32) : Nat → (Nat → Int32) → Nat → Int32
  | 0, S => S
  | k + 1, S => upd (upd (gs_md bu s k S) (51 + k) (if gs_bit s k = 1 ∧ ¬ bu = 0 then 0 else gs_md bu s k S (51 + k))) (27 + k) (if gs_bit s k = 1 ∧ bu = 0 then 1 else upd (gs_md bu s k S) (51 + k) (if gs_bit s k = 1 ∧ ¬ bu = 0 then 0 else gs_md bu s k S (51 + k)) (27 + k))
theorem gs_md_hi (bu s : Int32) {S : Nat → Int32} {j : Nat} (hj : 59 ≤ j) : ∀ k, k ≤ 8 → gs_md bu s k S j = S j
  | 0, _ => rfl
  | k + 1, hk => by
    unfold gs_md
    rw [pk_un (by omega), pk_un (by omega)]
    exact gs_md_hi bu s hj k (by omega)
/-- f behind s: better than what was found, allowed, and it helps -/
def gs_fw (bu : Int32) (T S : Nat → Int32) (m : Nat) (f s : Int32) : Prop := (f = -9 ∨ gs_on s 8 < gs_on f 8) ∧ (∀ b, b < 8 → gs_okb bu S s b) ∧ gs_mo (T 4) (T 2) (T 1) (gs_md bu s 8 S) m ≤ T 3
/-- x is what fewest finds among the first k sets -/
def gs_few (bu : Int32) (T S : Nat → Int32) (m : Nat) : Nat → Int32 → Prop
  | 0, x => x = -9
  | k + 1, x => ∃ f, gs_few bu T S m k f ∧ ((gs_fw bu T S m f (nI k) ∧ x = nI k) ∨ (¬ gs_fw bu T S m f (nI k) ∧ x = f))
theorem gs_few_s {bu : Int32} {T S : Nat → Int32} {m k : Nat} {x : Int32} : gs_few bu T S m (k + 1) x = ∃ f, gs_few bu T S m k f ∧ ((gs_fw bu T S m f (nI k) ∧ x = nI k) ∨ (¬ gs_fw bu T S m f (nI k) ∧ x = f)) := rfl
theorem gs_few_u {bu : Int32} {T S : Nat → Int32} {m : Nat} : ∀ (k : Nat) {x y : Int32}, gs_few bu T S m k x → gs_few bu T S m k y → x = y
  | 0, x, y, hx, hy => hx.trans hy.symm
  | k + 1, x, y, hx, hy => by
    rw [gs_few_s] at hx hy
    obtain ⟨f, h1, h2⟩ := hx
    obtain ⟨g, h3, h4⟩ := hy
    have e := gs_few_u k h1 h3
    subst e
    rcases h2 with ⟨a, b⟩ | ⟨a, b⟩ <;> rcases h4 with ⟨c, d⟩ | ⟨c, d⟩
    · exact b.trans d.symm
    · exact absurd a c
    · exact absurd c a
    · exact b.trans d.symm
theorem gs_b01 : ∀ (s : Nat), s < 256 → ∀ k, k < 8 → gs_bit (nI s) k = 0 ∨ gs_bit (nI s) k = 1 := by
  intro s hs k hk
  unfold gs_bit
  rw [gs_t1 s hs k hk]
  have : s / 2 ^ k % 2 < 2 := Nat.mod_lt _ (by decide)
  rcases (show s / 2 ^ k % 2 = 0 ∨ s / 2 ^ k % 2 = 1 by omega) with e | e <;> rw [e]
  · exact Or.inl rfl
  · exact Or.inr rfl
theorem gs_n9 {k : Nat} (hk : k < 1000) : ¬ nI k = -9 := fun h => by
  have h2 : (nI k).toInt = (-9 : Int32).toInt := by rw [h]
  rw [nI_toInt (by omega), show (-9 : Int32).toInt = -9 by decide] at h2
  omega
set_option maxHeartbeats 1000000 in
set_option maxRecDepth 100000 in
theorem c_X9_fewest {z : Nat} {I : bq_IR} {L : bq_LR} {m : Nat} {bu : Int32} (hA : ¬ I 77 1 = 0) (hm : m < 1000) : bq_FI MX9_fewest z [.ref (z + 75), .int (nI m), .int bu] 85 (bq_Rf z) I L (fun r J L' => gs_few bu (I 77) (I 79) m 256 r ∧ gs_mK I J ∧ L' = L) := by
  refine bq_FIof [some (.ref (z + 75)), some (.int (nI m)), some (.int bu), none, none, none, none, none] rfl (Nat.le_of_ble_eq_true rfl) (by decide) rfl (fun _ _ _ _ => rfl) ?_
  intro A G hret
  have G : bq_Cx cX9_fewest RX9 8 z (bq_rm MX9_fewest 0 0) "fewest" A := G
  have loop : ∀ s, s ≤ 256 → ∀ (f : Int32) (J : bq_IR), gs_few bu (I 77) (I 79) m s f → gs_rest I J → J 75 16 = I 77 4 → J 75 17 = I 77 2 → A 0 0 10 [some (.ref (z + 75)), some (.int (nI m)), some (.int bu), some (.int f), some (.int (nI s)), none, none, none] [] 85 (bq_Rf z) J L := by
    refine bq_down 256 ?_
    intro s hs ih f J hf hJ hw hd
    rcases Nat.lt_or_ge s 256 with hs8 | hs8
    · have ih := ih hs8
      -- behind the choice
      have no : ¬ gs_fw bu (I 77) (I 79) m f (nI s) → ∀ l5 : Int32, A 0 0 270 [some (.ref (z + 75)), some (.int (nI m)), some (.int bu), some (.int f), some (.int (nI s)), some (.int l5), some (.int (nI 8)), none] [] 85 (bq_Rf z) J L := by
        intro hn l5
        refine bq_iinc (q := 273) (ls' := [_, _, _, _, _, _, _, _]) G dX9_fewest_270 rfl rfl (by first | exact nI_1 _ | exact pk_m1 _ | rfl) (by decide) rfl rfl ?_
        refine bq_goto (q := 10) G dX9_fewest_273 (by decide) ?_
        refine bq_forget G ?_ (ih f J ⟨f, hf, Or.inr ⟨hn, rfl⟩⟩ hJ hw hd)
        repeat (first | exact bq_le_0 _ | refine bq_le_n ?_ | refine bq_le_s rfl ?_)
      -- all brooms have been looked at
      have mid : ∀ P : Prop, P = ((f = -9 ∨ gs_on (nI s) 8 < gs_on f 8) ∧ ∀ b, b < 8 → gs_okb bu (I 79) (nI s) b) → ∀ v : Int32, (v = 1 ∧ P) ∨ (v = 0 ∧ ¬ P) → A 0 0 140 [some (.ref (z + 75)), some (.int (nI m)), some (.int bu), some (.int f), some (.int (nI s)), some (.int v), some (.int (nI 8)), none] [] 85 (bq_Rf z) J L := by
        intro P hP v hv
        subst hP
        rcases hv with ⟨rfl, hP⟩ | ⟨rfl, hP⟩
        · have lp : ∀ k, k ≤ 8 → ∀ (K : bq_IR) (l7 : Option Value), (K 79 = gs_md bu (nI s) k (I 79) ∧ ∀ x, x ≠ 79 → K x = J x) → A 0 0 148 [some (.ref (z + 75)), some (.int (nI m)), some (.int bu), some (.int f), some (.int (nI s)), some (.int 1), some (.int (nI k)), none] [] 85 (bq_Rf z) K L := by
            refine bq_down 8 ?_
            intro k hk ihk K l7 hK
            rcases Nat.lt_or_ge k 8 with hk8 | hk8
            · have st : ∀ (l7 v1 : Int32), v1 = (if gs_bit (nI s) k = 1 ∧ ¬ bu = 0 then 0 else gs_md bu (nI s) k (I 79) (51 + k)) → (∀ (K1 : bq_IR), K1 = bq_sr K 79 (upd (K 79) (51 + k) v1) → ∀ v2 : Int32, v2 = (if gs_bit (nI s) k = 1 ∧ bu = 0 then 1 else K1 79 (27 + k)) → A 0 0 238 [some (.ref (z + 75)), some (.int (nI m)), some (.int bu), some (.int f), some (.int (nI s)), some (.int 1), some (.int (nI k)), some (.int l7)] [.int v2, .int (27 + nI k), .ref (z + 79)] 85 (bq_Rf z) K1 L) := by
                intro l7 v1 h1 K1 hK1 v2 h2
                refine bq_iast (q := 239) (b := 27 + k) G dX9_fewest_238 rfl (by first | assumption | exact ⟨Nat.le_of_ble_eq_true rfl, rfl⟩) (bq_ixa (a := 27) rfl rfl) (by first | with_reducible assumption | omega | decide) (by decide) ?_
                refine bq_iinc (q := 242) (ls' := [_, _, _, _, _, _, _, _]) G dX9_fewest_239 rfl rfl (by first | exact nI_1 _ | exact pk_m1 _ | rfl) (by decide) rfl rfl ?_
                refine bq_goto (q := 148) G dX9_fewest_242 (by decide) ?_
                refine bq_forget G ?_ (ihk hk8 _ none ⟨?_, fun x hx => ?_⟩)
                · repeat (first | exact bq_le_0 _ | refine bq_le_n ?_ | refine bq_le_s rfl ?_)
                · rw [bq_sr_s, hK1, bq_sr_s, hK.1, h1, h2, hK1, bq_sr_s, hK.1, h1]
                  rfl
                · rw [bq_sr_n hx, hK1, bq_sr_n hx]; exact hK.2 x hx
              have snd : ∀ (l7 v1 : Int32), ((l7 = 1 ∧ gs_bit (nI s) k = 1) ∨ (l7 = 0 ∧ ¬ gs_bit (nI s) k = 1)) → v1 = (if gs_bit (nI s) k = 1 ∧ ¬ bu = 0 then 0 else gs_md bu (nI s) k (I 79) (51 + k)) → A 0 0 205 [some (.ref (z + 75)), some (.int (nI m)), some (.int bu), some (.int f), some (.int (nI s)), some (.int 1), some (.int (nI k)), some (.int l7)] [.int v1, .int (51 + nI k), .ref (z + 79)] 85 (bq_Rf z) K L := by
                intro l7 v1 hl h1
                refine bq_iast (q := 206) (b := 51 + k) G dX9_fewest_205 rfl (by first | assumption | exact ⟨Nat.le_of_ble_eq_true rfl, rfl⟩) (bq_ixa (a := 51) rfl rfl) (by first | with_reducible assumption | omega | decide) (by decide) ?_
                have st' := st l7 v1 h1 _ rfl
                generalize bq_sr K 79 (upd (K 79) (51 + k) v1) = K1 at st' ⊢
                rcases hl with ⟨rfl, hl⟩ | ⟨rfl, hl⟩
                · refine bq_aload_n (q := 207) G rfl dX9_fewest_206 rfl ?_
                  refine bq_getr (q := 210) G dX9_fewest_207 rfl fl_X9_19 (by first | assumption | exact ⟨Nat.le_of_ble_eq_true rfl, rfl⟩) (fun _ _ _ => rfl) (rf_75_5 z) ?_
                  refine bq_bipush (q := 212) (v := 27) G (by decide) dX9_fewest_210 rfl ?_
                  refine bq_iload (q := 214) G rfl dX9_fewest_212 rfl ?_
                  refine bq_iadd (q := 215) G dX9_fewest_214 rfl ?_
                  refine bq_iload (q := 217) G rfl dX9_fewest_215 rfl ?_
                  refine bq_if_eq_f (q := 220) (t := 228) G dX9_fewest_217 rfl (by decide) (by decide) ?_
                  refine bq_iload_n (q := 221) G rfl dX9_fewest_220 rfl ?_
                  first | refine bq_ifb_ne (t := 228) (q := 224) G dX9_fewest_221 (by decide) rfl (fun c221 => ?_) (fun c221 => ?_) | refine bq_if_ne (t := 228) (q := 224) G dX9_fewest_221 (by decide) rfl (fun c221 => ?_) (fun c221 => ?_)
                  · refine bq_aload_n (q := 229) G rfl dX9_fewest_228 rfl ?_
                    refine bq_getr (q := 232) G dX9_fewest_229 rfl fl_X9_19 (by first | assumption | exact ⟨Nat.le_of_ble_eq_true rfl, rfl⟩) (fun _ _ _ => rfl) (rf_75_5 z) ?_
                    refine bq_bipush (q := 234) (v := 27) G (by decide) dX9_fewest_232 rfl ?_
                    refine bq_iload (q := 236) G rfl dX9_fewest_234 rfl ?_
                    refine bq_iadd (q := 237) G dX9_fewest_236 rfl ?_
                    refine bq_iald (q := 238) G dX9_fewest_237 rfl (by first | assumption | exact ⟨Nat.le_of_ble_eq_true rfl, rfl⟩) (bq_ixa (a := 27) rfl (by first | with_reducible assumption | with_reducible exact rfl | exact rfl)) (by first | with_reducible assumption | omega | decide) (by decide) ?_
                    exact st' _ (by rw [if_neg (fun h => c221 h.2)])
                  · refine bq_iconst (q := 225) (v := 1) G (by decide) dX9_fewest_224 rfl ?_
                    refine bq_goto (q := 238) G dX9_fewest_225 (by decide) ?_
                    exact st' _ (by rw [if_pos ⟨hl, c221⟩])
                · refine bq_aload_n (q := 207) G rfl dX9_fewest_206 rfl ?_
                  refine bq_getr (q := 210) G dX9_fewest_207 rfl fl_X9_19 (by first | assumption | exact ⟨Nat.le_of_ble_eq_true rfl, rfl⟩) (fun _ _ _ => rfl) (rf_75_5 z) ?_
                  refine bq_bipush (q := 212) (v := 27) G (by decide) dX9_fewest_210 rfl ?_
                  refine bq_iload (q := 214) G rfl dX9_fewest_212 rfl ?_
                  refine bq_iadd (q := 215) G dX9_fewest_214 rfl ?_
                  refine bq_iload (q := 217) G rfl dX9_fewest_215 rfl ?_
                  refine bq_if_eq_t (t := 228) G dX9_fewest_217 (by decide) rfl ?_
                  refine bq_aload_n (q := 229) G rfl dX9_fewest_228 rfl ?_
                  refine bq_getr (q := 232) G dX9_fewest_229 rfl fl_X9_19 (by first | assumption | exact ⟨Nat.le_of_ble_eq_true rfl, rfl⟩) (fun _ _ _ => rfl) (rf_75_5 z) ?_
                  refine bq_bipush (q := 234) (v := 27) G (by decide) dX9_fewest_232 rfl ?_
                  refine bq_iload (q := 236) G rfl dX9_fewest_234 rfl ?_
                  refine bq_iadd (q := 237) G dX9_fewest_236 rfl ?_
                  refine bq_iald (q := 238) G dX9_fewest_237 rfl (by first | assumption | exact ⟨Nat.le_of_ble_eq_true rfl, rfl⟩) (bq_ixa (a := 27) rfl (by first | with_reducible assumption | with_reducible exact rfl | exact rfl)) (by first | with_reducible assumption | omega | decide) (by decide) ?_
                  exact st' _ (by rw [if_neg (fun h => hl h.1)])
              have fst : ∀ (l7 : Int32), ((l7 = 1 ∧ gs_bit (nI s) k = 1) ∨ (l7 = 0 ∧ ¬ gs_bit (nI s) k = 1)) → A 0 0 171 [some (.ref (z + 75)), some (.int (nI m)), some (.int bu), some (.int f), some (.int (nI s)), some (.int 1), some (.int (nI k)), none] [.int l7] 85 (bq_Rf z) K L := by
                intro l7 hl
                rcases hl with ⟨rfl, hl⟩ | ⟨rfl, hl⟩
                · refine bq_istore (q := 173) (ls' := [_, _, _, _, _, _, _, _]) G dX9_fewest_171 rfl (by decide) rfl rfl ?_
                  refine bq_aload_n (q := 174) G rfl dX9_fewest_173 rfl ?_
                  refine bq_getr (q := 177) G dX9_fewest_174 rfl fl_X9_19 (by first | assumption | exact ⟨Nat.le_of_ble_eq_true rfl, rfl⟩) (fun _ _ _ => rfl) (rf_75_5 z) ?_
                  refine bq_bipush (q := 179) (v := 51) G (by decide) dX9_fewest_177 rfl ?_
                  refine bq_iload (q := 181) G rfl dX9_fewest_179 rfl ?_
                  refine bq_iadd (q := 182) G dX9_fewest_181 rfl ?_
                  refine bq_iload (q := 184) G rfl dX9_fewest_182 rfl ?_
                  refine bq_if_eq_f (q := 187) (t := 195) G dX9_fewest_184 rfl (by decide) (by decide) ?_
                  refine bq_iload_n (q := 188) G rfl dX9_fewest_187 rfl ?_
                  first | refine bq_ifb_eq (t := 195) (q := 191) G dX9_fewest_188 (by decide) rfl (fun c188 => ?_) (fun c188 => ?_) | refine bq_if_eq (t := 195) (q := 191) G dX9_fewest_188 (by decide) rfl (fun c188 => ?_) (fun c188 => ?_)
                  · refine bq_aload_n (q := 196) G rfl dX9_fewest_195 rfl ?_
                    refine bq_getr (q := 199) G dX9_fewest_196 rfl fl_X9_19 (by first | assumption | exact ⟨Nat.le_of_ble_eq_true rfl, rfl⟩) (fun _ _ _ => rfl) (rf_75_5 z) ?_
                    refine bq_bipush (q := 201) (v := 51) G (by decide) dX9_fewest_199 rfl ?_
                    refine bq_iload (q := 203) G rfl dX9_fewest_201 rfl ?_
                    refine bq_iadd (q := 204) G dX9_fewest_203 rfl ?_
                    refine bq_iald (q := 205) G dX9_fewest_204 rfl (by first | assumption | exact ⟨Nat.le_of_ble_eq_true rfl, rfl⟩) (bq_ixa (a := 51) rfl (by first | with_reducible assumption | with_reducible exact rfl | exact rfl)) (by first | with_reducible assumption | omega | decide) (by decide) ?_
                    exact snd 1 _ (Or.inl ⟨rfl, hl⟩) (by rw [if_neg (fun h => h.2 c188), hK.1])
                  · refine bq_iconst (q := 192) (v := 0) G (by decide) dX9_fewest_191 rfl ?_
                    refine bq_goto (q := 205) G dX9_fewest_192 (by decide) ?_
                    exact snd 1 _ (Or.inl ⟨rfl, hl⟩) (by rw [if_pos ⟨hl, c188⟩])
                · refine bq_istore (q := 173) (ls' := [_, _, _, _, _, _, _, _]) G dX9_fewest_171 rfl (by decide) rfl rfl ?_
                  refine bq_aload_n (q := 174) G rfl dX9_fewest_173 rfl ?_
                  refine bq_getr (q := 177) G dX9_fewest_174 rfl fl_X9_19 (by first | assumption | exact ⟨Nat.le_of_ble_eq_true rfl, rfl⟩) (fun _ _ _ => rfl) (rf_75_5 z) ?_
                  refine bq_bipush (q := 179) (v := 51) G (by decide) dX9_fewest_177 rfl ?_
                  refine bq_iload (q := 181) G rfl dX9_fewest_179 rfl ?_
                  refine bq_iadd (q := 182) G dX9_fewest_181 rfl ?_
                  refine bq_iload (q := 184) G rfl dX9_fewest_182 rfl ?_
                  refine bq_if_eq_t (t := 195) G dX9_fewest_184 (by decide) rfl ?_
                  refine bq_aload_n (q := 196) G rfl dX9_fewest_195 rfl ?_
                  refine bq_getr (q := 199) G dX9_fewest_196 rfl fl_X9_19 (by first | assumption | exact ⟨Nat.le_of_ble_eq_true rfl, rfl⟩) (fun _ _ _ => rfl) (rf_75_5 z) ?_
                  refine bq_bipush (q := 201) (v := 51) G (by decide) dX9_fewest_199 rfl ?_
                  refine bq_iload (q := 203) G rfl dX9_fewest_201 rfl ?_
                  refine bq_iadd (q := 204) G dX9_fewest_203 rfl ?_
                  refine bq_iald (q := 205) G dX9_fewest_204 rfl (by first | assumption | exact ⟨Nat.le_of_ble_eq_true rfl, rfl⟩) (bq_ixa (a := 51) rfl (by first | with_reducible assumption | with_reducible exact rfl | exact rfl)) (by first | with_reducible assumption | omega | decide) (by decide) ?_
                  exact snd 0 _ (Or.inr ⟨rfl, hl⟩) (by rw [if_neg (fun h => hl h.1), hK.1])
              refine bq_iload (q := 150) G rfl dX9_fewest_148 rfl ?_
              refine bq_bipush (q := 152) (v := 8) G (by decide) dX9_fewest_150 rfl ?_
              refine bq_icmp_ge_f (q := 155) (t := 245) G dX9_fewest_152 rfl (by decide) (nI_ge (a := k) (b := 8) hk8 (by decide)) ?_
              refine bq_iload (q := 157) G rfl dX9_fewest_155 rfl ?_
              refine bq_iload (q := 159) G rfl dX9_fewest_157 rfl ?_
              refine bq_ishr (q := 160) G dX9_fewest_159 rfl ?_
              refine bq_iconst (q := 161) (v := 1) G (by decide) dX9_fewest_160 rfl ?_
              refine bq_iand (q := 162) G dX9_fewest_161 rfl ?_
              refine bq_iconst (q := 163) (v := 1) G (by decide) dX9_fewest_162 rfl ?_
              refine bq_icmp_ne (t := 170) (q := 166) G dX9_fewest_163 (by decide) rfl (fun c163 => ?_) (fun c163 => ?_)
              · refine bq_iconst (q := 171) (v := 0) G (by decide) dX9_fewest_170 rfl ?_
                exact fst 0 (Or.inr ⟨rfl, c163⟩)
              · refine bq_iconst (q := 167) (v := 1) G (by decide) dX9_fewest_166 rfl ?_
                refine bq_goto (q := 171) G dX9_fewest_167 (by decide) ?_
                exact fst 1 (Or.inl ⟨rfl, c163⟩)
            · have hk9 : k = 8 := by omega
              subst hk9
              have e77 : K 77 = I 77 := by rw [hK.2 77 (by decide)]; exact hJ.1.2.2 77 (by decide) (by decide) (by decide)
              have hon : gs_on1 I K := by
                refine ⟨⟨fun j hj => ?_, fun j hj => ?_⟩, fun j a b c => ?_, fun x a b c => ?_⟩
                · rw [hK.2 84 (by decide)]; exact hJ.1.1.1 j hj
                · rw [hK.1, gs_md_hi bu (nI s) hj 8 (Nat.le_refl 8)]
                · rw [hK.2 75 (by decide)]; exact hJ.1.2.1 j a b c
                · rw [hK.2 x b]; exact hJ.1.2.2 x a b c
              refine bq_iload (q := 150) G rfl dX9_fewest_148 rfl ?_
              refine bq_bipush (q := 152) (v := 8) G (by decide) dX9_fewest_150 rfl ?_
              refine bq_icmp_ge_t (t := 245) G dX9_fewest_152 (by decide) (nI_le (a := 8) (b := 8) (by omega) (by decide)) ?_
              refine bq_aload_n (q := 246) G rfl dX9_fewest_245 rfl ?_
              refine bq_iload_n (q := 247) G rfl dX9_fewest_246 rfl ?_
              refine bq_callvI (q := 250) G dX9_fewest_247 rfl cl_X9_147 (c_X9_highest (m := m) (by rw [e77]; exact hA) (by omega)) rfl (by first | assumption | exact ⟨Nat.le_of_ble_eq_true rfl, rfl⟩) rfl ⟨Nat.le_of_ble_eq_true rfl, Nat.le_of_ble_eq_true rfl⟩ (Nat.le_of_ble_eq_true rfl) ⟨Nat.le_of_ble_eq_true rfl, Nat.le_of_ble_eq_true rfl⟩ (fun r247 I247 L247 h247 => ?_)
              obtain ⟨e1, e2, rfl⟩ := h247
              rw [hK.2 75 (by decide), hw, hd, e77, hK.1] at e1
              have e3 : I247 77 = I 77 := by rw [e2.2.2 77 (by decide) (by decide), e77]
              have hl := (hon.mI e2).lets
              have hrest : gs_rest I (bq_sr I247 79 (gs_cp 59 (I247 84) (I247 79))) := ⟨⟨⟨fun j hj => by rw [bq_sr_n (by decide)]; exact (hon.mI e2).1.1 j hj, fun j hj => by rw [hl.1]⟩, hl.2.1, hl.2.2⟩, hl.1⟩
              have q16 : bq_sr I247 79 (gs_cp 59 (I247 84) (I247 79)) 75 16 = I 77 4 := by rw [bq_sr_n (by decide), e2.2.1.1, hK.2 75 (by decide), hw]
              have q17 : bq_sr I247 79 (gs_cp 59 (I247 84) (I247 79)) 75 17 = I 77 2 := by rw [bq_sr_n (by decide), e2.2.1.2.1, hK.2 75 (by decide), hd]
              have st : ∀ r : Int32, gs_few bu (I 77) (I 79) m (s + 1) r → A 0 0 265 [some (.ref (z + 75)), some (.int (nI m)), some (.int bu), some (.int f), some (.int (nI s)), some (.int 1), some (.int (nI 8)), none] [.int r] 85 (bq_Rf z) I247 L247 := by
                intro r hr
                refine bq_istore_n (q := 266) (ls' := [_, _, _, _, _, _, _, _]) G dX9_fewest_265 rfl (by decide) rfl rfl ?_
                refine bq_aload_n (q := 267) G rfl dX9_fewest_266 rfl ?_
                refine bq_callv (q := 270) G dX9_fewest_267 rfl cl_X9_144 (c_X9_lets) rfl (by first | assumption | exact ⟨Nat.le_of_ble_eq_true rfl, rfl⟩) rfl ⟨Nat.le_of_ble_eq_true rfl, Nat.le_of_ble_eq_true rfl⟩ (Nat.le_of_ble_eq_true rfl) ⟨Nat.le_of_ble_eq_true rfl, Nat.le_of_ble_eq_true rfl⟩ rfl ?_
                refine bq_iinc (q := 273) (ls' := [_, _, _, _, _, _, _, _]) G dX9_fewest_270 rfl rfl (by first | exact nI_1 _ | exact pk_m1 _ | rfl) (by decide) rfl rfl ?_
                refine bq_goto (q := 10) G dX9_fewest_273 (by decide) ?_
                refine bq_forget G ?_ (ih r _ hr hrest q16 q17)
                repeat (first | exact bq_le_0 _ | refine bq_le_n ?_ | refine bq_le_s rfl ?_)
              refine bq_aload_n (q := 251) G rfl dX9_fewest_250 rfl ?_
              refine bq_getr (q := 254) G dX9_fewest_251 rfl fl_X9_13 (by first | assumption | exact ⟨Nat.le_of_ble_eq_true rfl, rfl⟩) (fun _ _ _ => rfl) (rf_75_3 z) ?_
              refine bq_iconst (q := 255) (v := 3) G (by decide) dX9_fewest_254 rfl ?_
              refine bq_iald (q := 256) (b := 3) G dX9_fewest_255 rfl (by first | assumption | exact ⟨Nat.le_of_ble_eq_true rfl, rfl⟩) rfl (by first | with_reducible assumption | omega | decide) (by decide) ?_
              refine bq_icmp_gt (t := 264) (q := 259) G dX9_fewest_256 (by decide) rfl (fun c256 => ?_) (fun c256 => ?_)
              · rw [e1, e3] at c256
                refine bq_iload_n (q := 265) G rfl dX9_fewest_264 rfl ?_
                exact st _ ⟨f, hf, Or.inr ⟨fun h => absurd c256 (Int32.not_lt.mpr h.2.2), rfl⟩⟩
              · rw [e1, e3] at c256
                refine bq_iload (q := 261) G rfl dX9_fewest_259 rfl ?_
                refine bq_goto (q := 265) G dX9_fewest_261 (by decide) ?_
                exact st _ ⟨f, hf, Or.inl ⟨⟨hP.1, hP.2, Int32.not_lt.mp c256⟩, rfl⟩⟩
          refine bq_iload (q := 142) G rfl dX9_fewest_140 rfl ?_
          refine bq_if_eq_f (q := 145) (t := 270) G dX9_fewest_142 rfl (by decide) (by decide) ?_
          refine bq_iconst (q := 146) (v := 0) G (by decide) dX9_fewest_145 rfl ?_
          refine bq_istore (q := 148) (ls' := [_, _, _, _, _, _, _, _]) G dX9_fewest_146 rfl (by decide) rfl rfl ?_
          exact lp 0 (by omega) J none ⟨hJ.2, fun _ _ => rfl⟩
        · refine bq_iload (q := 142) G rfl dX9_fewest_140 rfl ?_
          refine bq_if_eq_t (t := 270) G dX9_fewest_142 (by decide) rfl ?_
          exact no (fun h => hP ⟨h.1, h.2.1⟩) 0
      -- the brooms, one by one
      have lp2 : ∀ k, k ≤ 8 → ∀ v : Int32, (v = 1 ∧ ((f = -9 ∨ gs_on (nI s) 8 < gs_on f 8) ∧ ∀ b, b < k → gs_okb bu (I 79) (nI s) b)) ∨ (v = 0 ∧ ¬ ((f = -9 ∨ gs_on (nI s) 8 < gs_on f 8) ∧ ∀ b, b < k → gs_okb bu (I 79) (nI s) b)) → A 0 0 46 [some (.ref (z + 75)), some (.int (nI m)), some (.int bu), some (.int f), some (.int (nI s)), some (.int v), some (.int (nI k)), none] [] 85 (bq_Rf z) J L := by
        refine bq_down 8 ?_
        intro k hk ihk v hv
        rcases Nat.lt_or_ge k 8 with hk8 | hk8
        · have ihk := ihk hk8
          have nxt : ∀ (v' l7 : Int32), (v' = 1 ∧ ((f = -9 ∨ gs_on (nI s) 8 < gs_on f 8) ∧ ∀ b, b < k + 1 → gs_okb bu (I 79) (nI s) b)) ∨ (v' = 0 ∧ ¬ ((f = -9 ∨ gs_on (nI s) 8 < gs_on f 8) ∧ ∀ b, b < k + 1 → gs_okb bu (I 79) (nI s) b)) → A 0 0 132 [some (.ref (z + 75)), some (.int (nI m)), some (.int bu), some (.int f), some (.int (nI s)), some (.int v), some (.int (nI k)), some (.int l7)] [.int v'] 85 (bq_Rf z) J L := by
            intro v' l7 h
            refine bq_istore (q := 134) (ls' := [_, _, _, _, _, _, _, _]) G dX9_fewest_132 rfl (by decide) rfl rfl ?_
            refine bq_iinc (q := 137) (ls' := [_, _, _, _, _, _, _, _]) G dX9_fewest_134 rfl rfl (by first | exact nI_1 _ | exact pk_m1 _ | rfl) (by decide) rfl rfl ?_
            refine bq_goto (q := 46) G dX9_fewest_137 (by decide) ?_
            refine bq_forget G ?_ (ihk v' h)
            repeat (first | exact bq_le_0 _ | refine bq_le_n ?_ | refine bq_le_s rfl ?_)
          have can : ∀ l7 : Int32, ((l7 = 1 ∧ (I 79 (51 + k) = 1 ∧ (if bu = 0 then I 79 (27 + k) = 0 else I 79 (43 + k) = 0))) ∨ (l7 = 0 ∧ ¬ (I 79 (51 + k) = 1 ∧ (if bu = 0 then I 79 (27 + k) = 0 else I 79 (43 + k) = 0)))) → A 0 0 105 [some (.ref (z + 75)), some (.int (nI m)), some (.int bu), some (.int f), some (.int (nI s)), some (.int v), some (.int (nI k)), none] [.int l7] 85 (bq_Rf z) J L := by
            intro l7 hl
            rcases hv with ⟨rfl, hv1, hv2⟩ | ⟨rfl, hv⟩
            · refine bq_istore (q := 107) (ls' := [_, _, _, _, _, _, _, _]) G dX9_fewest_105 rfl (by decide) rfl rfl ?_
              refine bq_iload (q := 109) G rfl dX9_fewest_107 rfl ?_
              refine bq_if_eq_f (q := 112) (t := 131) G dX9_fewest_109 rfl (by decide) (by decide) ?_
              refine bq_iload (q := 114) G rfl dX9_fewest_112 rfl ?_
              refine bq_iload (q := 116) G rfl dX9_fewest_114 rfl ?_
              refine bq_ishr (q := 117) G dX9_fewest_116 rfl ?_
              refine bq_iconst (q := 118) (v := 1) G (by decide) dX9_fewest_117 rfl ?_
              refine bq_iand (q := 119) G dX9_fewest_118 rfl ?_
              first | refine bq_ifb_eq (t := 127) (q := 122) G dX9_fewest_119 (by decide) rfl (fun c119 => ?_) (fun c119 => ?_) | refine bq_if_eq (t := 127) (q := 122) G dX9_fewest_119 (by decide) rfl (fun c119 => ?_) (fun c119 => ?_)
              · refine bq_iconst (q := 128) (v := 1) G (by decide) dX9_fewest_127 rfl ?_
                refine bq_goto (q := 132) G dX9_fewest_128 (by decide) ?_
                refine nxt 1 l7 (Or.inl ⟨rfl, hv1, fun b hb => ?_⟩)
                rcases Nat.lt_or_ge b k with h | h
                · exact hv2 b h
                · have : b = k := by omega
                  subst this
                  exact Or.inl c119
              · rcases hl with ⟨rfl, hl⟩ | ⟨rfl, hl⟩
                · refine bq_iload (q := 124) G rfl dX9_fewest_122 rfl ?_
                  refine bq_if_eq_f (q := 127) (t := 131) G dX9_fewest_124 rfl (by decide) (by decide) ?_
                  refine bq_iconst (q := 128) (v := 1) G (by decide) dX9_fewest_127 rfl ?_
                  refine bq_goto (q := 132) G dX9_fewest_128 (by decide) ?_
                  refine nxt 1 1 (Or.inl ⟨rfl, hv1, fun b hb => ?_⟩)
                  rcases Nat.lt_or_ge b k with h | h
                  · exact hv2 b h
                  · have : b = k := by omega
                    subst this
                    exact Or.inr hl
                · refine bq_iload (q := 124) G rfl dX9_fewest_122 rfl ?_
                  refine bq_if_eq_t (t := 131) G dX9_fewest_124 (by decide) rfl ?_
                  refine bq_iconst (q := 132) (v := 0) G (by decide) dX9_fewest_131 rfl ?_
                  refine nxt 0 0 (Or.inr ⟨rfl, fun h => ?_⟩)
                  exact (h.2 k (by omega)).elim c119 hl
            · refine bq_istore (q := 107) (ls' := [_, _, _, _, _, _, _, _]) G dX9_fewest_105 rfl (by decide) rfl rfl ?_
              refine bq_iload (q := 109) G rfl dX9_fewest_107 rfl ?_
              refine bq_if_eq_t (t := 131) G dX9_fewest_109 (by decide) rfl ?_
              refine bq_iconst (q := 132) (v := 0) G (by decide) dX9_fewest_131 rfl ?_
              exact nxt 0 l7 (Or.inr ⟨rfl, fun h => hv ⟨h.1, fun b hb => h.2 b (by omega)⟩⟩)
          refine bq_iload (q := 48) G rfl dX9_fewest_46 rfl ?_
          refine bq_bipush (q := 50) (v := 8) G (by decide) dX9_fewest_48 rfl ?_
          refine bq_icmp_ge_f (q := 53) (t := 140) G dX9_fewest_50 rfl (by decide) (nI_ge (a := k) (b := 8) hk8 (by decide)) ?_
          refine bq_aload_n (q := 54) G rfl dX9_fewest_53 rfl ?_
          refine bq_getr (q := 57) G dX9_fewest_54 rfl fl_X9_19 (by first | assumption | exact ⟨Nat.le_of_ble_eq_true rfl, rfl⟩) (fun _ _ _ => rfl) (rf_75_5 z) ?_
          refine bq_bipush (q := 59) (v := 51) G (by decide) dX9_fewest_57 rfl ?_
          refine bq_iload (q := 61) G rfl dX9_fewest_59 rfl ?_
          refine bq_iadd (q := 62) G dX9_fewest_61 rfl ?_
          refine bq_iald (q := 63) G dX9_fewest_62 rfl (by first | assumption | exact ⟨Nat.le_of_ble_eq_true rfl, rfl⟩) (bq_ixa (a := 51) rfl (by first | with_reducible assumption | with_reducible exact rfl | exact rfl)) (by first | with_reducible assumption | omega | decide) (by decide) ?_
          refine bq_iconst (q := 64) (v := 1) G (by decide) dX9_fewest_63 rfl ?_
          refine bq_icmp_ne (t := 104) (q := 67) G dX9_fewest_64 (by decide) rfl (fun c64 => ?_) (fun c64 => ?_)
          · rw [hJ.2] at c64
            refine bq_iconst (q := 105) (v := 0) G (by decide) dX9_fewest_104 rfl ?_
            exact can 0 (Or.inr ⟨rfl, fun h => c64 h.1⟩)
          · rw [hJ.2] at c64
            refine bq_iload_n (q := 68) G rfl dX9_fewest_67 rfl ?_
            first | refine bq_ifb_eq (t := 87) (q := 71) G dX9_fewest_68 (by decide) rfl (fun c68 => ?_) (fun c68 => ?_) | refine bq_if_eq (t := 87) (q := 71) G dX9_fewest_68 (by decide) rfl (fun c68 => ?_) (fun c68 => ?_)
            · refine bq_aload_n (q := 88) G rfl dX9_fewest_87 rfl ?_
              refine bq_getr (q := 91) G dX9_fewest_88 rfl fl_X9_19 (by first | assumption | exact ⟨Nat.le_of_ble_eq_true rfl, rfl⟩) (fun _ _ _ => rfl) (rf_75_5 z) ?_
              refine bq_bipush (q := 93) (v := 27) G (by decide) dX9_fewest_91 rfl ?_
              refine bq_iload (q := 95) G rfl dX9_fewest_93 rfl ?_
              refine bq_iadd (q := 96) G dX9_fewest_95 rfl ?_
              refine bq_iald (q := 97) G dX9_fewest_96 rfl (by first | assumption | exact ⟨Nat.le_of_ble_eq_true rfl, rfl⟩) (bq_ixa (a := 27) rfl (by first | with_reducible assumption | with_reducible exact rfl | exact rfl)) (by first | with_reducible assumption | omega | decide) (by decide) ?_
              first | refine bq_ifb_ne (t := 104) (q := 100) G dX9_fewest_97 (by decide) rfl (fun c97 => ?_) (fun c97 => ?_) | refine bq_if_ne (t := 104) (q := 100) G dX9_fewest_97 (by decide) rfl (fun c97 => ?_) (fun c97 => ?_)
              · rw [hJ.2] at c97
                refine bq_iconst (q := 105) (v := 0) G (by decide) dX9_fewest_104 rfl ?_
                exact can 0 (Or.inr ⟨rfl, fun h => by rw [if_pos c68] at h; exact c97 h.2⟩)
              · rw [hJ.2] at c97
                refine bq_iconst (q := 101) (v := 1) G (by decide) dX9_fewest_100 rfl ?_
                refine bq_goto (q := 105) G dX9_fewest_101 (by decide) ?_
                exact can 1 (Or.inl ⟨rfl, c64, by rw [if_pos c68]; exact c97⟩)
            · refine bq_aload_n (q := 72) G rfl dX9_fewest_71 rfl ?_
              refine bq_getr (q := 75) G dX9_fewest_72 rfl fl_X9_19 (by first | assumption | exact ⟨Nat.le_of_ble_eq_true rfl, rfl⟩) (fun _ _ _ => rfl) (rf_75_5 z) ?_
              refine bq_bipush (q := 77) (v := 43) G (by decide) dX9_fewest_75 rfl ?_
              refine bq_iload (q := 79) G rfl dX9_fewest_77 rfl ?_
              refine bq_iadd (q := 80) G dX9_fewest_79 rfl ?_
              refine bq_iald (q := 81) G dX9_fewest_80 rfl (by first | assumption | exact ⟨Nat.le_of_ble_eq_true rfl, rfl⟩) (bq_ixa (a := 43) rfl (by first | with_reducible assumption | with_reducible exact rfl | exact rfl)) (by first | with_reducible assumption | omega | decide) (by decide) ?_
              first | refine bq_ifb_ne (t := 104) (q := 84) G dX9_fewest_81 (by decide) rfl (fun c81 => ?_) (fun c81 => ?_) | refine bq_if_ne (t := 104) (q := 84) G dX9_fewest_81 (by decide) rfl (fun c81 => ?_) (fun c81 => ?_)
              · rw [hJ.2] at c81
                refine bq_iconst (q := 105) (v := 0) G (by decide) dX9_fewest_104 rfl ?_
                exact can 0 (Or.inr ⟨rfl, fun h => by rw [if_neg c68] at h; exact c81 h.2⟩)
              · rw [hJ.2] at c81
                refine bq_goto (q := 100) G dX9_fewest_84 (by decide) ?_
                refine bq_iconst (q := 101) (v := 1) G (by decide) dX9_fewest_100 rfl ?_
                refine bq_goto (q := 105) G dX9_fewest_101 (by decide) ?_
                exact can 1 (Or.inl ⟨rfl, c64, by rw [if_neg c68]; exact c81⟩)
        · have hk9 : k = 8 := by omega
          subst hk9
          refine bq_iload (q := 48) G rfl dX9_fewest_46 rfl ?_
          refine bq_bipush (q := 50) (v := 8) G (by decide) dX9_fewest_48 rfl ?_
          refine bq_icmp_ge_t (t := 140) G dX9_fewest_50 (by decide) (nI_le (a := 8) (b := 8) (by omega) (by decide)) ?_
          exact mid _ rfl v hv
      have may : ∀ v : Int32, (v = 1 ∧ (f = -9 ∨ gs_on (nI s) 8 < gs_on f 8)) ∨ (v = 0 ∧ ¬ (f = -9 ∨ gs_on (nI s) 8 < gs_on f 8)) → A 0 0 41 [some (.ref (z + 75)), some (.int (nI m)), some (.int bu), some (.int f), some (.int (nI s)), none, none, none] [.int v] 85 (bq_Rf z) J L := by
        intro v hv
        refine bq_istore (q := 43) (ls' := [_, _, _, _, _, _, _, _]) G dX9_fewest_41 rfl (by decide) rfl rfl ?_
        refine bq_iconst (q := 44) (v := 0) G (by decide) dX9_fewest_43 rfl ?_
        refine bq_istore (q := 46) (ls' := [_, _, _, _, _, _, _, _]) G dX9_fewest_44 rfl (by decide) rfl rfl ?_
        refine lp2 0 (by omega) v ?_
        rcases hv with ⟨e, h⟩ | ⟨e, h⟩
        · exact Or.inl ⟨e, h, fun b hb => by omega⟩
        · exact Or.inr ⟨e, fun h2 => h h2.1⟩
      refine bq_iload (q := 12) G rfl dX9_fewest_10 rfl ?_
      refine bq_sipush (q := 15) (v := 256) G (by decide) dX9_fewest_12 rfl ?_
      refine bq_icmp_ge_f (q := 18) (t := 276) G dX9_fewest_15 rfl (by decide) (nI_ge (a := s) (b := 256) hs8 (by decide)) ?_
      refine bq_iload_n (q := 19) G rfl dX9_fewest_18 rfl ?_
      refine bq_bipush (q := 21) (v := -9) G (by decide) dX9_fewest_19 rfl ?_
      refine bq_icmp_eq (t := 36) (q := 24) G dX9_fewest_21 (by decide) rfl (fun c21 => ?_) (fun c21 => ?_)
      · refine bq_iconst (q := 37) (v := 1) G (by decide) dX9_fewest_36 rfl ?_
        refine bq_goto (q := 41) G dX9_fewest_37 (by decide) ?_
        exact may 1 (Or.inl ⟨rfl, Or.inl c21⟩)
      · refine bq_iload (q := 26) G rfl dX9_fewest_24 rfl ?_
        refine bq_calls (q := 29) G dX9_fewest_26 rfl cl_X9_138 (c_X9_ones) rfl rfl ⟨Nat.le_of_ble_eq_true rfl, Nat.le_of_ble_eq_true rfl⟩ (Nat.le_of_ble_eq_true rfl) ⟨Nat.le_of_ble_eq_true rfl, Nat.le_of_ble_eq_true rfl⟩ rfl ?_
        refine bq_iload_n (q := 30) G rfl dX9_fewest_29 rfl ?_
        refine bq_calls (q := 33) G dX9_fewest_30 rfl cl_X9_138 (c_X9_ones) rfl rfl ⟨Nat.le_of_ble_eq_true rfl, Nat.le_of_ble_eq_true rfl⟩ (Nat.le_of_ble_eq_true rfl) ⟨Nat.le_of_ble_eq_true rfl, Nat.le_of_ble_eq_true rfl⟩ rfl ?_
        refine bq_icmp_ge (t := 40) (q := 36) G dX9_fewest_33 (by decide) rfl (fun c33 => ?_) (fun c33 => ?_)
        · refine bq_iconst (q := 41) (v := 0) G (by decide) dX9_fewest_40 rfl ?_
          exact may 0 (Or.inr ⟨rfl, fun h => h.elim c21 (fun h => absurd h (Int32.not_lt.mpr c33))⟩)
        · refine bq_iconst (q := 37) (v := 1) G (by decide) dX9_fewest_36 rfl ?_
          refine bq_goto (q := 41) G dX9_fewest_37 (by decide) ?_
          exact may 1 (Or.inl ⟨rfl, Or.inr (Int32.not_le.mp c33)⟩)
    · have hs9 : s = 256 := by omega
      subst hs9
      refine bq_iload (q := 12) G rfl dX9_fewest_10 rfl ?_
      refine bq_sipush (q := 15) (v := 256) G (by decide) dX9_fewest_12 rfl ?_
      refine bq_icmp_ge_t (t := 276) G dX9_fewest_15 (by decide) (nI_le (a := 256) (b := 256) (by omega) (by decide)) ?_
      refine bq_iload_n (q := 277) G rfl dX9_fewest_276 rfl ?_
      exact hret _ _ _ _ _ dX9_fewest_277 ⟨hf, hJ.fin, rfl⟩
  refine bq_aload_n (q := 1) G rfl dX9_fewest_0 rfl ?_
  refine bq_callv (q := 4) G dX9_fewest_1 rfl cl_X9_141 (c_holds) rfl (by first | assumption | exact ⟨Nat.le_of_ble_eq_true rfl, rfl⟩) rfl ⟨Nat.le_of_ble_eq_true rfl, Nat.le_of_ble_eq_true rfl⟩ (Nat.le_of_ble_eq_true rfl) ⟨Nat.le_of_ble_eq_true rfl, Nat.le_of_ble_eq_true rfl⟩ rfl ?_
  refine bq_bipush (q := 6) (v := -9) G (by decide) dX9_fewest_4 rfl ?_
  refine bq_istore_n (q := 7) (ls' := [_, _, _, _, _, _, _, _]) G dX9_fewest_6 rfl (by decide) rfl rfl ?_
  refine bq_iconst (q := 8) (v := 0) G (by decide) dX9_fewest_7 rfl ?_
  refine bq_istore (q := 10) (ls' := [_, _, _, _, _, _, _, _]) G dX9_fewest_8 rfl (by decide) rfl rfl ?_
  exact loop 0 (by omega) (-9) _ rfl ⟨gs_on1.H I, gs_H79 I⟩ (gs_Hw I) (gs_Hd I)
set_option maxHeartbeats 1000000 in
set_option maxRecDepth 100000 in
theorem c_X9_teach {z : Nat} {I : bq_IR} {L : bq_LR} {n : Int32} (hA : ¬ I 77 1 = 0) : bq_FI MX9_teach z [.ref (z + 75), .int n] 85 (bq_Rf z) I L (fun r J L' => (((1 ≤ n ∧ n ≤ 60) → gs_few 0 (I 77) (I 79) n.toNatClampNeg 256 r) ∧ (¬ (1 ≤ n ∧ n ≤ 60) → r = -1)) ∧ gs_mK I J ∧ L' = L) := by
  refine bq_FIof [some (.ref (z + 75)), some (.int n)] rfl (Nat.le_of_ble_eq_true rfl) (by decide) rfl (fun _ _ _ _ => rfl) ?_
  intro A G hret
  have G : bq_Cx cX9_teach RX9 2 z (bq_rm MX9_teach 0 0) "teach" A := G
  refine bq_iload_n (q := 1) G rfl dX9_teach_0 rfl ?_
  refine bq_iconst (q := 2) (v := 1) G (by decide) dX9_teach_1 rfl ?_
  refine bq_bipush (q := 4) (v := 60) G (by decide) dX9_teach_2 rfl ?_
  refine bq_calls (q := 7) G dX9_teach_4 rfl cl_X9_45 (c_X9_in) rfl rfl ⟨Nat.le_of_ble_eq_true rfl, Nat.le_of_ble_eq_true rfl⟩ (Nat.le_of_ble_eq_true rfl) ⟨Nat.le_of_ble_eq_true rfl, Nat.le_of_ble_eq_true rfl⟩ rfl ?_
  first | refine bq_ifb_eq (t := 19) (q := 10) G dX9_teach_7 (by decide) rfl (fun c7 => ?_) (fun c7 => ?_) | refine bq_if_eq (t := 19) (q := 10) G dX9_teach_7 (by decide) rfl (fun c7 => ?_) (fun c7 => ?_)
  · refine bq_iconst (q := 20) (v := -1) G (by decide) dX9_teach_19 rfl ?_
    exact hret _ _ _ _ _ dX9_teach_20 ⟨⟨fun h => absurd h c7, fun _ => rfl⟩, gs_mK.rf I, rfl⟩
  · obtain ⟨m, hm, rfl⟩ := gs_in60 c7
    refine bq_aload_n (q := 11) G rfl dX9_teach_10 rfl ?_
    refine bq_iload_n (q := 12) G rfl dX9_teach_11 rfl ?_
    refine bq_iconst (q := 13) (v := 0) G (by decide) dX9_teach_12 rfl ?_
    refine bq_callvI (q := 16) G dX9_teach_13 rfl cl_X9_150 (c_X9_fewest (m := m) hA (by omega)) rfl (by first | assumption | exact ⟨Nat.le_of_ble_eq_true rfl, rfl⟩) rfl ⟨Nat.le_of_ble_eq_true rfl, Nat.le_of_ble_eq_true rfl⟩ (Nat.le_of_ble_eq_true rfl) ⟨Nat.le_of_ble_eq_true rfl, Nat.le_of_ble_eq_true rfl⟩ (fun r13 I13 L13 h13 => ?_)
    obtain ⟨e1, e2, rfl⟩ := h13
    refine bq_goto (q := 20) G dX9_teach_16 (by decide) ?_
    refine hret _ _ _ _ _ dX9_teach_20 ⟨⟨fun _ => ?_, fun h => absurd c7 h⟩, e2, rfl⟩
    rw [nI_clamp (by omega)]
    exact e1
set_option maxHeartbeats 1000000 in
set_option maxRecDepth 100000 in
theorem c_X9_burn {z : Nat} {I : bq_IR} {L : bq_LR} {n : Int32} (hA : ¬ I 77 1 = 0) : bq_FI MX9_burn z [.ref (z + 75), .int n] 85 (bq_Rf z) I L (fun r J L' => (((1 ≤ n ∧ n ≤ 60) → gs_few 1 (I 77) (I 79) n.toNatClampNeg 256 r) ∧ (¬ (1 ≤ n ∧ n ≤ 60) → r = -1)) ∧ gs_mK I J ∧ L' = L) := by
  refine bq_FIof [some (.ref (z + 75)), some (.int n)] rfl (Nat.le_of_ble_eq_true rfl) (by decide) rfl (fun _ _ _ _ => rfl) ?_
  intro A G hret
  have G : bq_Cx cX9_burn RX9 2 z (bq_rm MX9_burn 0 0) "burn" A := G
  refine bq_iload_n (q := 1) G rfl dX9_burn_0 rfl ?_
  refine bq_iconst (q := 2) (v := 1) G (by decide) dX9_burn_1 rfl ?_
  refine bq_bipush (q := 4) (v := 60) G (by decide) dX9_burn_2 rfl ?_
  refine bq_calls (q := 7) G dX9_burn_4 rfl cl_X9_45 (c_X9_in) rfl rfl ⟨Nat.le_of_ble_eq_true rfl, Nat.le_of_ble_eq_true rfl⟩ (Nat.le_of_ble_eq_true rfl) ⟨Nat.le_of_ble_eq_true rfl, Nat.le_of_ble_eq_true rfl⟩ rfl ?_
  first | refine bq_ifb_eq (t := 19) (q := 10) G dX9_burn_7 (by decide) rfl (fun c7 => ?_) (fun c7 => ?_) | refine bq_if_eq (t := 19) (q := 10) G dX9_burn_7 (by decide) rfl (fun c7 => ?_) (fun c7 => ?_)
  · refine bq_iconst (q := 20) (v := -1) G (by decide) dX9_burn_19 rfl ?_
    exact hret _ _ _ _ _ dX9_burn_20 ⟨⟨fun h => absurd h c7, fun _ => rfl⟩, gs_mK.rf I, rfl⟩
  · obtain ⟨m, hm, rfl⟩ := gs_in60 c7
    refine bq_aload_n (q := 11) G rfl dX9_burn_10 rfl ?_
    refine bq_iload_n (q := 12) G rfl dX9_burn_11 rfl ?_
    refine bq_iconst (q := 13) (v := 1) G (by decide) dX9_burn_12 rfl ?_
    refine bq_callvI (q := 16) G dX9_burn_13 rfl cl_X9_150 (c_X9_fewest (m := m) hA (by omega)) rfl (by first | assumption | exact ⟨Nat.le_of_ble_eq_true rfl, rfl⟩) rfl ⟨Nat.le_of_ble_eq_true rfl, Nat.le_of_ble_eq_true rfl⟩ (Nat.le_of_ble_eq_true rfl) ⟨Nat.le_of_ble_eq_true rfl, Nat.le_of_ble_eq_true rfl⟩ (fun r13 I13 L13 h13 => ?_)
    obtain ⟨e1, e2, rfl⟩ := h13
    refine bq_goto (q := 20) G dX9_burn_16 (by decide) ?_
    refine hret _ _ _ _ _ dX9_burn_20 ⟨⟨fun _ => ?_, fun h => absurd c7 h⟩, e2, rfl⟩
    rw [nI_clamp (by omega)]
    exact e1
