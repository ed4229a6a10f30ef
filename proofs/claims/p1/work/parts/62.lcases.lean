set_option maxRecDepth 20000 in
theorem lw_k0 {X : Mx} {l : Launch} {G : Gl} {A : Nat → Prop} (C : Cx X l G A "OddHoursLaw" code 4 ret room_1) {b : Nat} {xs : Nat → Int32} (hX : va_X b 6 xs X.s X.s.heap) (hbl : b < X.s.heap.size) (hbA : ¬ A b) (hA : ∀ q, A q → X.s.heap.size ≤ q) (hlr : X.args = #[Value.ref b]) {ad : Nat → Nat} {E : Nat → va_E} (h8 : Fresh8 G ad E) (hM : FreshM G ad E) : V X G A 4 (lw_Z X.below #[Value.ref b] X.s) 98 ad 1000 400000 E 168 [(0, .ref b), (1, .ref (ad 0)), (2, .ref (ad 68)), (3, .int 0)] [] := by
  obtain ⟨h0, ⟨ms1, ld1, ys1, h1, h2, h3, h4, h5, hcP, hcF⟩, h6, h7, h8a, hPf, h45, h46, h47, h48, h49, h50, h51, hq52, hq58, h64, h65, h66, h67⟩ := h8
  have hz : (ip0 1).toInt = 0 := by decide
  have hPr : ∀ i, i < 6 → E (9 + 6 * i) = ob 5 (rP ad (9 + 6 * i)) ip0 := fun i hi => (hPf i hi).1
  refine v_aload_n C 1 dL_law_168 rfl rfl ?_
  refine v_aload_n C 0 dL_law_169 rfl rfl ?_
  refine v_iload_n C 3 dL_law_170 rfl rfl ?_
  refine v_iconst (v := 1) C dL_law_171 (by decide) ?_
  refine v_iadd C dL_law_172 ?_
  refine v_eq (y := 1) (by decide) ?_
  refine v_sld (v := xs 1) C hX hbl hbA dL_law_173 (ti_in (show (1 : Int32).toInt = 1 by decide) (by decide) (by decide)) rfl ?_
  refine v_aload_n C 0 dL_law_174 rfl rfl ?_
  refine v_iload_n C 3 dL_law_175 rfl rfl ?_
  refine v_iconst (v := 2) C dL_law_176 (by decide) ?_
  refine v_iadd C dL_law_177 ?_
  refine v_eq (y := 2) (by decide) ?_
  refine v_sld (v := xs 2) C hX hbl hbA dL_law_178 (ti_in (show (2 : Int32).toInt = 2 by decide) (by decide) (by decide)) rfl ?_
  refine v_cVi C dL_law_179 lL_13 mX8_month 0 (by decide) h0 (by decide) rfl (c_month l G 98 ad E (by decide) h1 h2 h3 h4 h5 hcP hcF (by decide) h0 h6 (xs 1) (xs 2)) ⟨by decide, by decide⟩ rfl (Nat.le_of_ble_eq_true rfl) ⟨by decide, by decide⟩ (fun r1 E2 hq3 => ?_)
  have gg : (r1.toInt = if 0 ≤ (xs 1).toInt ∧ (xs 1).toInt < 12 ∧ 1 ≤ (xs 2).toInt ∧ (xs 2).toInt ≤ 40 then (md30 (Int.toNat (xs 1).toInt)).toInt else -1) ∧ Fr8 E E2 := by
    rcases hq3 with ⟨a1, a2, a3⟩ | ⟨a1, a2, a3, a4⟩ | ⟨a1, a2, a3, a4, a5⟩
    · exact ⟨by rw [if_neg a1]; exact a2, fun _ _ => by rw [a3]⟩
    · exact absurd a2 (by decide)
    · exact ⟨by rw [if_pos a1]; first | exact a3 | rw [a3], fun j hj => a5 j (by omega) (by omega) (by omega) (by omega)⟩
  have g1 := gg.1
  have hM1 : FreshM G ad E2 := hM.keep (fun _ _ => rfl) (fun j _ h => gg.2 j h)
  refine v_aload_n C 2 dL_law_182 rfl rfl ?_
  refine v_aload_n C 0 dL_law_183 rfl rfl ?_
  refine v_iload_n C 3 dL_law_184 rfl rfl ?_
  refine v_iconst (v := 1) C dL_law_185 (by decide) ?_
  refine v_iadd C dL_law_186 ?_
  refine v_eq (y := 1) (by decide) ?_
  refine v_sld (v := xs 1) C hX hbl hbA dL_law_187 (ti_in (show (1 : Int32).toInt = 1 by decide) (by decide) (by decide)) rfl ?_
  refine v_aload_n C 0 dL_law_188 rfl rfl ?_
  refine v_iload_n C 3 dL_law_189 rfl rfl ?_
  refine v_iconst (v := 2) C dL_law_190 (by decide) ?_
  refine v_iadd C dL_law_191 ?_
  refine v_eq (y := 2) (by decide) ?_
  refine v_sld (v := xs 2) C hX hbl hbA dL_law_192 (ti_in (show (2 : Int32).toInt = 2 by decide) (by decide) (by decide)) rfl ?_
  refine v_cVi C dL_law_193 lL_17 mX9_month 68 (by decide) hM1.1 (by decide) rfl (m_month l G 98 ad E2 (by decide) hM1 (xs 1) (xs 2)) ⟨by decide, by decide⟩ rfl (Nat.le_of_ble_eq_true rfl) ⟨by decide, by decide⟩ (fun r4 E5 hq6 => ?_)
  have geq : r1.toInt = r4.toInt := g1.trans (Eq.symm hq6)
  refine b_icmp_eq C 1288 dL_law_196 (by decide) (rfl : Int32.toInt r1 = _) (rfl : Int32.toInt r4 = _) (fun c7 => ?_) (fun c7 => absurd geq c7)
  refine v_sub (lv' := [(0, .ref b), (3, .int 0)]) [0, 3] rfl ?_
  exact lw_tail C hX hbl hbA hA hlr (by decide) (by decide)
set_option maxRecDepth 20000 in
theorem lw_k1 {X : Mx} {l : Launch} {G : Gl} {A : Nat → Prop} (C : Cx X l G A "OddHoursLaw" code 4 ret room_1) {b : Nat} {xs : Nat → Int32} (hX : va_X b 6 xs X.s X.s.heap) (hbl : b < X.s.heap.size) (hbA : ¬ A b) (hA : ∀ q, A q → X.s.heap.size ≤ q) (hlr : X.args = #[Value.ref b]) {ad : Nat → Nat} {E : Nat → va_E} (h8 : Fresh8 G ad E) (hM : FreshM G ad E) : V X G A 4 (lw_Z X.below #[Value.ref b] X.s) 98 ad 1000 400000 E 201 [(0, .ref b), (1, .ref (ad 0)), (2, .ref (ad 68)), (3, .int 0)] [] := by
  obtain ⟨h0, ⟨ms1, ld1, ys1, h1, h2, h3, h4, h5, hcP, hcF⟩, h6, h7, h8a, hPf, h45, h46, h47, h48, h49, h50, h51, hq52, hq58, h64, h65, h66, h67⟩ := h8
  have hz : (ip0 1).toInt = 0 := by decide
  have hPr : ∀ i, i < 6 → E (9 + 6 * i) = ob 5 (rP ad (9 + 6 * i)) ip0 := fun i hi => (hPf i hi).1
  refine v_aload_n C 1 dL_law_201 rfl rfl ?_
  refine v_aload_n C 0 dL_law_202 rfl rfl ?_
  refine v_iload_n C 3 dL_law_203 rfl rfl ?_
  refine v_iconst (v := 1) C dL_law_204 (by decide) ?_
  refine v_iadd C dL_law_205 ?_
  refine v_eq (y := 1) (by decide) ?_
  refine v_sld (v := xs 1) C hX hbl hbA dL_law_206 (ti_in (show (1 : Int32).toInt = 1 by decide) (by decide) (by decide)) rfl ?_
  refine v_aload_n C 0 dL_law_207 rfl rfl ?_
  refine v_iload_n C 3 dL_law_208 rfl rfl ?_
  refine v_iconst (v := 2) C dL_law_209 (by decide) ?_
  refine v_iadd C dL_law_210 ?_
  refine v_eq (y := 2) (by decide) ?_
  refine v_sld (v := xs 2) C hX hbl hbA dL_law_211 (ti_in (show (2 : Int32).toInt = 2 by decide) (by decide) (by decide)) rfl ?_
  refine v_aload_n C 0 dL_law_212 rfl rfl ?_
  refine v_iload_n C 3 dL_law_213 rfl rfl ?_
  refine v_iconst (v := 3) C dL_law_214 (by decide) ?_
  refine v_iadd C dL_law_215 ?_
  refine v_eq (y := 3) (by decide) ?_
  refine v_sld (v := xs 3) C hX hbl hbA dL_law_216 (ti_in (show (3 : Int32).toInt = 3 by decide) (by decide) (by decide)) rfl ?_
  refine v_cVi C dL_law_217 lL_18 mX8_leap 0 (by decide) h0 (by decide) rfl (c_leap l G 98 ad E (by decide) h1 h2 h3 h4 h5 hcP hcF (by decide) h0 h6 (xs 1) (xs 2) (xs 3)) ⟨by decide, by decide⟩ rfl (Nat.le_of_ble_eq_true rfl) ⟨by decide, by decide⟩ (fun r1 E2 hq3 => ?_)
  have gg : (r1.toInt = if 2 ≤ (xs 1).toInt ∧ (xs 1).toInt ≤ 50 ∧ 2 ≤ (xs 2).toInt ∧ (xs 2).toInt ≤ 100 ∧ 0 ≤ (xs 3).toInt ∧ (xs 3).toInt < 12 then 1 else -1) ∧ Fr8 E E2 := by
    rcases hq3 with ⟨a1, a2, a3⟩ | ⟨a1, a2, a3, a4⟩ | ⟨a1, a2, a3, a4, a5⟩
    · exact ⟨by rw [if_neg a1]; exact a2, fun _ _ => by rw [a3]⟩
    · exact absurd a2 (by decide)
    · exact ⟨by rw [if_pos a1]; first | exact a3 | rw [a3], fun j hj => a5 j (by omega) (by omega) (by omega) (by omega)⟩
  have g1 := gg.1
  have hM1 : FreshM G ad E2 := hM.keep (fun _ _ => rfl) (fun j _ h => gg.2 j h)
  refine v_aload_n C 2 dL_law_220 rfl rfl ?_
  refine v_aload_n C 0 dL_law_221 rfl rfl ?_
  refine v_iload_n C 3 dL_law_222 rfl rfl ?_
  refine v_iconst (v := 1) C dL_law_223 (by decide) ?_
  refine v_iadd C dL_law_224 ?_
  refine v_eq (y := 1) (by decide) ?_
  refine v_sld (v := xs 1) C hX hbl hbA dL_law_225 (ti_in (show (1 : Int32).toInt = 1 by decide) (by decide) (by decide)) rfl ?_
  refine v_aload_n C 0 dL_law_226 rfl rfl ?_
  refine v_iload_n C 3 dL_law_227 rfl rfl ?_
  refine v_iconst (v := 2) C dL_law_228 (by decide) ?_
  refine v_iadd C dL_law_229 ?_
  refine v_eq (y := 2) (by decide) ?_
  refine v_sld (v := xs 2) C hX hbl hbA dL_law_230 (ti_in (show (2 : Int32).toInt = 2 by decide) (by decide) (by decide)) rfl ?_
  refine v_aload_n C 0 dL_law_231 rfl rfl ?_
  refine v_iload_n C 3 dL_law_232 rfl rfl ?_
  refine v_iconst (v := 3) C dL_law_233 (by decide) ?_
  refine v_iadd C dL_law_234 ?_
  refine v_eq (y := 3) (by decide) ?_
  refine v_sld (v := xs 3) C hX hbl hbA dL_law_235 (ti_in (show (3 : Int32).toInt = 3 by decide) (by decide) (by decide)) rfl ?_
  refine v_cVi C dL_law_236 lL_22 mX9_leap 68 (by decide) hM1.1 (by decide) rfl (m_leap l G 98 ad E2 (by decide) hM1 (xs 1) (xs 2) (xs 3)) ⟨by decide, by decide⟩ rfl (Nat.le_of_ble_eq_true rfl) ⟨by decide, by decide⟩ (fun r4 E5 hq6 => ?_)
  have geq : r1.toInt = r4.toInt := g1.trans (Eq.symm hq6)
  refine b_icmp_eq C 1288 dL_law_239 (by decide) (rfl : Int32.toInt r1 = _) (rfl : Int32.toInt r4 = _) (fun c7 => ?_) (fun c7 => absurd geq c7)
  refine v_sub (lv' := [(0, .ref b), (3, .int 0)]) [0, 3] rfl ?_
  exact lw_tail C hX hbl hbA hA hlr (by decide) (by decide)
set_option maxRecDepth 20000 in
theorem lw_k2 {X : Mx} {l : Launch} {G : Gl} {A : Nat → Prop} (C : Cx X l G A "OddHoursLaw" code 4 ret room_1) {b : Nat} {xs : Nat → Int32} (hX : va_X b 6 xs X.s X.s.heap) (hbl : b < X.s.heap.size) (hbA : ¬ A b) (hA : ∀ q, A q → X.s.heap.size ≤ q) (hlr : X.args = #[Value.ref b]) {ad : Nat → Nat} {E : Nat → va_E} (h8 : Fresh8 G ad E) (hM : FreshM G ad E) : V X G A 4 (lw_Z X.below #[Value.ref b] X.s) 98 ad 1000 400000 E 244 [(0, .ref b), (1, .ref (ad 0)), (2, .ref (ad 68)), (3, .int 0)] [] := by
  obtain ⟨h0, ⟨ms1, ld1, ys1, h1, h2, h3, h4, h5, hcP, hcF⟩, h6, h7, h8a, hPf, h45, h46, h47, h48, h49, h50, h51, hq52, hq58, h64, h65, h66, h67⟩ := h8
  have hz : (ip0 1).toInt = 0 := by decide
  have hPr : ∀ i, i < 6 → E (9 + 6 * i) = ob 5 (rP ad (9 + 6 * i)) ip0 := fun i hi => (hPf i hi).1
  refine v_aload_n C 1 dL_law_244 rfl rfl ?_
  refine v_aload_n C 0 dL_law_245 rfl rfl ?_
  refine v_iload_n C 3 dL_law_246 rfl rfl ?_
  refine v_iconst (v := 1) C dL_law_247 (by decide) ?_
  refine v_iadd C dL_law_248 ?_
  refine v_eq (y := 1) (by decide) ?_
  refine v_sld (v := xs 1) C hX hbl hbA dL_law_249 (ti_in (show (1 : Int32).toInt = 1 by decide) (by decide) (by decide)) rfl ?_
  refine v_aload_n C 0 dL_law_250 rfl rfl ?_
  refine v_iload_n C 3 dL_law_251 rfl rfl ?_
  refine v_iconst (v := 2) C dL_law_252 (by decide) ?_
  refine v_iadd C dL_law_253 ?_
  refine v_eq (y := 2) (by decide) ?_
  refine v_sld (v := xs 2) C hX hbl hbA dL_law_254 (ti_in (show (2 : Int32).toInt = 2 by decide) (by decide) (by decide)) rfl ?_
  refine v_cVi C dL_law_255 lL_23 mX8_week 0 (by decide) h0 (by decide) rfl (c_week l G 98 ad E (by decide) h1 h2 h3 h4 h5 hcP hcF (by decide) h0 h6 (xs 1) (xs 2)) ⟨by decide, by decide⟩ rfl (Nat.le_of_ble_eq_true rfl) ⟨by decide, by decide⟩ (fun r1 E2 hq3 => ?_)
  have gg : (r1.toInt = if 2 ≤ (xs 1).toInt ∧ (xs 1).toInt ≤ 10 ∧ 0 ≤ (xs 2).toInt ∧ (xs 2).toInt ≤ 9 then 1 else -1) ∧ Fr8 E E2 := by
    rcases hq3 with ⟨a1, a2, a3⟩ | ⟨a1, a2, a3, a4⟩ | ⟨a1, a2, a3, a4, a5⟩
    · exact ⟨by rw [if_neg a1]; exact a2, fun _ _ => by rw [a3]⟩
    · exact absurd a2 (by decide)
    · exact ⟨by rw [if_pos a1]; first | exact a3 | rw [a3], fun j hj => a5 j (by omega)⟩
  have g1 := gg.1
  have hM1 : FreshM G ad E2 := hM.keep (fun _ _ => rfl) (fun j _ h => gg.2 j h)
  refine v_aload_n C 2 dL_law_258 rfl rfl ?_
  refine v_aload_n C 0 dL_law_259 rfl rfl ?_
  refine v_iload_n C 3 dL_law_260 rfl rfl ?_
  refine v_iconst (v := 1) C dL_law_261 (by decide) ?_
  refine v_iadd C dL_law_262 ?_
  refine v_eq (y := 1) (by decide) ?_
  refine v_sld (v := xs 1) C hX hbl hbA dL_law_263 (ti_in (show (1 : Int32).toInt = 1 by decide) (by decide) (by decide)) rfl ?_
  refine v_aload_n C 0 dL_law_264 rfl rfl ?_
  refine v_iload_n C 3 dL_law_265 rfl rfl ?_
  refine v_iconst (v := 2) C dL_law_266 (by decide) ?_
  refine v_iadd C dL_law_267 ?_
  refine v_eq (y := 2) (by decide) ?_
  refine v_sld (v := xs 2) C hX hbl hbA dL_law_268 (ti_in (show (2 : Int32).toInt = 2 by decide) (by decide) (by decide)) rfl ?_
  refine v_cVi C dL_law_269 lL_26 mX9_week 68 (by decide) hM1.1 (by decide) rfl (m_week l G 98 ad E2 (by decide) hM1 (xs 1) (xs 2)) ⟨by decide, by decide⟩ rfl (Nat.le_of_ble_eq_true rfl) ⟨by decide, by decide⟩ (fun r4 E5 hq6 => ?_)
  have geq : r1.toInt = r4.toInt := g1.trans (Eq.symm hq6)
  refine b_icmp_eq C 1288 dL_law_272 (by decide) (rfl : Int32.toInt r1 = _) (rfl : Int32.toInt r4 = _) (fun c7 => ?_) (fun c7 => absurd geq c7)
  refine v_sub (lv' := [(0, .ref b), (3, .int 0)]) [0, 3] rfl ?_
  exact lw_tail C hX hbl hbA hA hlr (by decide) (by decide)
set_option maxRecDepth 20000 in
theorem lw_k3 {X : Mx} {l : Launch} {G : Gl} {A : Nat → Prop} (C : Cx X l G A "OddHoursLaw" code 4 ret room_1) {b : Nat} {xs : Nat → Int32} (hX : va_X b 6 xs X.s X.s.heap) (hbl : b < X.s.heap.size) (hbA : ¬ A b) (hA : ∀ q, A q → X.s.heap.size ≤ q) (hlr : X.args = #[Value.ref b]) {ad : Nat → Nat} {E : Nat → va_E} (h8 : Fresh8 G ad E) (hM : FreshM G ad E) : V X G A 4 (lw_Z X.below #[Value.ref b] X.s) 98 ad 1000 400000 E 277 [(0, .ref b), (1, .ref (ad 0)), (2, .ref (ad 68)), (3, .int 0)] [] := by
  obtain ⟨h0, ⟨ms1, ld1, ys1, h1, h2, h3, h4, h5, hcP, hcF⟩, h6, h7, h8a, hPf, h45, h46, h47, h48, h49, h50, h51, hq52, hq58, h64, h65, h66, h67⟩ := h8
  have hz : (ip0 1).toInt = 0 := by decide
  have hPr : ∀ i, i < 6 → E (9 + 6 * i) = ob 5 (rP ad (9 + 6 * i)) ip0 := fun i hi => (hPf i hi).1
  refine v_aload_n C 1 dL_law_277 rfl rfl ?_
  refine v_aload_n C 0 dL_law_278 rfl rfl ?_
  refine v_iload_n C 3 dL_law_279 rfl rfl ?_
  refine v_iconst (v := 1) C dL_law_280 (by decide) ?_
  refine v_iadd C dL_law_281 ?_
  refine v_eq (y := 1) (by decide) ?_
  refine v_sld (v := xs 1) C hX hbl hbA dL_law_282 (ti_in (show (1 : Int32).toInt = 1 by decide) (by decide) (by decide)) rfl ?_
  refine v_aload_n C 0 dL_law_283 rfl rfl ?_
  refine v_iload_n C 3 dL_law_284 rfl rfl ?_
  refine v_iconst (v := 2) C dL_law_285 (by decide) ?_
  refine v_iadd C dL_law_286 ?_
  refine v_eq (y := 2) (by decide) ?_
  refine v_sld (v := xs 2) C hX hbl hbA dL_law_287 (ti_in (show (2 : Int32).toInt = 2 by decide) (by decide) (by decide)) rfl ?_
  refine v_cVi C dL_law_288 lL_27 mX8_day 0 (by decide) h0 (by decide) rfl (c_day l G 98 ad E (by decide) h1 h2 h3 h4 h5 hcP hcF (by decide) h0 h6 (xs 1) (xs 2)) ⟨by decide, by decide⟩ rfl (Nat.le_of_ble_eq_true rfl) ⟨by decide, by decide⟩ (fun r1 E2 hq3 => ?_)
  obtain ⟨g1, g2⟩ := hq3
  subst g2
  have gg := (⟨g1, fun _ _ => rfl⟩ : _ ∧ Fr8 E E)
  have g1 := gg.1
  have hM1 : FreshM G ad E := hM.keep (fun _ _ => rfl) (fun j _ h => gg.2 j h)
  refine v_aload_n C 2 dL_law_291 rfl rfl ?_
  refine v_aload_n C 0 dL_law_292 rfl rfl ?_
  refine v_iload_n C 3 dL_law_293 rfl rfl ?_
  refine v_iconst (v := 1) C dL_law_294 (by decide) ?_
  refine v_iadd C dL_law_295 ?_
  refine v_eq (y := 1) (by decide) ?_
  refine v_sld (v := xs 1) C hX hbl hbA dL_law_296 (ti_in (show (1 : Int32).toInt = 1 by decide) (by decide) (by decide)) rfl ?_
  refine v_aload_n C 0 dL_law_297 rfl rfl ?_
  refine v_iload_n C 3 dL_law_298 rfl rfl ?_
  refine v_iconst (v := 2) C dL_law_299 (by decide) ?_
  refine v_iadd C dL_law_300 ?_
  refine v_eq (y := 2) (by decide) ?_
  refine v_sld (v := xs 2) C hX hbl hbA dL_law_301 (ti_in (show (2 : Int32).toInt = 2 by decide) (by decide) (by decide)) rfl ?_
  refine v_cVi C dL_law_302 lL_30 mX9_day 68 (by decide) hM1.1 (by decide) rfl (d_day l G 98 ad E (by decide) hM1.cal (xs 1) (xs 2)) ⟨by decide, by decide⟩ rfl (Nat.le_of_ble_eq_true rfl) ⟨by decide, by decide⟩ (fun r4 E5 hq6 => ?_)
  have geq : r1.toInt = r4.toInt := g1.trans (Eq.symm hq6.1)
  refine b_icmp_eq C 1288 dL_law_305 (by decide) (rfl : Int32.toInt r1 = _) (rfl : Int32.toInt r4 = _) (fun c7 => ?_) (fun c7 => absurd geq c7)
  refine v_sub (lv' := [(0, .ref b), (3, .int 0)]) [0, 3] rfl ?_
  exact lw_tail C hX hbl hbA hA hlr (by decide) (by decide)
set_option maxRecDepth 20000 in
theorem lw_k4 {X : Mx} {l : Launch} {G : Gl} {A : Nat → Prop} (C : Cx X l G A "OddHoursLaw" code 4 ret room_1) {b : Nat} {xs : Nat → Int32} (hX : va_X b 6 xs X.s X.s.heap) (hbl : b < X.s.heap.size) (hbA : ¬ A b) (hA : ∀ q, A q → X.s.heap.size ≤ q) (hlr : X.args = #[Value.ref b]) {ad : Nat → Nat} {E : Nat → va_E} (h8 : Fresh8 G ad E) (hM : FreshM G ad E) : V X G A 4 (lw_Z X.below #[Value.ref b] X.s) 98 ad 1000 400000 E 310 [(0, .ref b), (1, .ref (ad 0)), (2, .ref (ad 68)), (3, .int 0)] [] := by
  obtain ⟨h0, ⟨ms1, ld1, ys1, h1, h2, h3, h4, h5, hcP, hcF⟩, h6, h7, h8a, hPf, h45, h46, h47, h48, h49, h50, h51, hq52, hq58, h64, h65, h66, h67⟩ := h8
  have hz : (ip0 1).toInt = 0 := by decide
  have hPr : ∀ i, i < 6 → E (9 + 6 * i) = ob 5 (rP ad (9 + 6 * i)) ip0 := fun i hi => (hPf i hi).1
  refine v_aload_n C 1 dL_law_310 rfl rfl ?_
  refine v_aload_n C 0 dL_law_311 rfl rfl ?_
  refine v_iload_n C 3 dL_law_312 rfl rfl ?_
  refine v_iconst (v := 1) C dL_law_313 (by decide) ?_
  refine v_iadd C dL_law_314 ?_
  refine v_eq (y := 1) (by decide) ?_
  refine v_sld (v := xs 1) C hX hbl hbA dL_law_315 (ti_in (show (1 : Int32).toInt = 1 by decide) (by decide) (by decide)) rfl ?_
  refine v_aload_n C 0 dL_law_316 rfl rfl ?_
  refine v_iload_n C 3 dL_law_317 rfl rfl ?_
  refine v_iconst (v := 2) C dL_law_318 (by decide) ?_
  refine v_iadd C dL_law_319 ?_
  refine v_eq (y := 2) (by decide) ?_
  refine v_sld (v := xs 2) C hX hbl hbA dL_law_320 (ti_in (show (2 : Int32).toInt = 2 by decide) (by decide) (by decide)) rfl ?_
  refine v_cVi C dL_law_321 lL_31 mX8_date 0 (by decide) h0 (by decide) rfl (c_date l G 98 ad E (by decide) h1 h2 h3 h4 h5 hcP hcF (by decide) h0 h6 (xs 1) (xs 2)) ⟨by decide, by decide⟩ rfl (Nat.le_of_ble_eq_true rfl) ⟨by decide, by decide⟩ (fun r1 E2 hq3 => ?_)
  obtain ⟨g1, g2⟩ := hq3
  subst g2
  have gg := (⟨g1, fun _ _ => rfl⟩ : _ ∧ Fr8 E E)
  have g1 := gg.1
  have hM1 : FreshM G ad E := hM.keep (fun _ _ => rfl) (fun j _ h => gg.2 j h)
  refine v_aload_n C 2 dL_law_324 rfl rfl ?_
  refine v_aload_n C 0 dL_law_325 rfl rfl ?_
  refine v_iload_n C 3 dL_law_326 rfl rfl ?_
  refine v_iconst (v := 1) C dL_law_327 (by decide) ?_
  refine v_iadd C dL_law_328 ?_
  refine v_eq (y := 1) (by decide) ?_
  refine v_sld (v := xs 1) C hX hbl hbA dL_law_329 (ti_in (show (1 : Int32).toInt = 1 by decide) (by decide) (by decide)) rfl ?_
  refine v_aload_n C 0 dL_law_330 rfl rfl ?_
  refine v_iload_n C 3 dL_law_331 rfl rfl ?_
  refine v_iconst (v := 2) C dL_law_332 (by decide) ?_
  refine v_iadd C dL_law_333 ?_
  refine v_eq (y := 2) (by decide) ?_
  refine v_sld (v := xs 2) C hX hbl hbA dL_law_334 (ti_in (show (2 : Int32).toInt = 2 by decide) (by decide) (by decide)) rfl ?_
  refine v_cVi C dL_law_335 lL_34 mX9_date 68 (by decide) hM1.1 (by decide) rfl (d_date l G 98 ad E (by decide) hM1.cal (xs 1) (xs 2)) ⟨by decide, by decide⟩ rfl (Nat.le_of_ble_eq_true rfl) ⟨by decide, by decide⟩ (fun r4 E5 hq6 => ?_)
  have geq : r1.toInt = r4.toInt := DTp_one cal0 g1 hq6.1
  refine b_icmp_eq C 1288 dL_law_338 (by decide) (rfl : Int32.toInt r1 = _) (rfl : Int32.toInt r4 = _) (fun c7 => ?_) (fun c7 => absurd geq c7)
  refine v_sub (lv' := [(0, .ref b), (3, .int 0)]) [0, 3] rfl ?_
  exact lw_tail C hX hbl hbA hA hlr (by decide) (by decide)
set_option maxRecDepth 20000 in
theorem lw_k5 {X : Mx} {l : Launch} {G : Gl} {A : Nat → Prop} (C : Cx X l G A "OddHoursLaw" code 4 ret room_1) {b : Nat} {xs : Nat → Int32} (hX : va_X b 6 xs X.s X.s.heap) (hbl : b < X.s.heap.size) (hbA : ¬ A b) (hA : ∀ q, A q → X.s.heap.size ≤ q) (hlr : X.args = #[Value.ref b]) {ad : Nat → Nat} {E : Nat → va_E} (h8 : Fresh8 G ad E) (hM : FreshM G ad E) : V X G A 4 (lw_Z X.below #[Value.ref b] X.s) 98 ad 1000 400000 E 343 [(0, .ref b), (1, .ref (ad 0)), (2, .ref (ad 68)), (3, .int 0)] [] := by
  obtain ⟨h0, ⟨ms1, ld1, ys1, h1, h2, h3, h4, h5, hcP, hcF⟩, h6, h7, h8a, hPf, h45, h46, h47, h48, h49, h50, h51, hq52, hq58, h64, h65, h66, h67⟩ := h8
  have hz : (ip0 1).toInt = 0 := by decide
  have hPr : ∀ i, i < 6 → E (9 + 6 * i) = ob 5 (rP ad (9 + 6 * i)) ip0 := fun i hi => (hPf i hi).1
  refine v_aload_n C 1 dL_law_343 rfl rfl ?_
  refine v_aload_n C 0 dL_law_344 rfl rfl ?_
  refine v_iload_n C 3 dL_law_345 rfl rfl ?_
  refine v_iconst (v := 1) C dL_law_346 (by decide) ?_
  refine v_iadd C dL_law_347 ?_
  refine v_eq (y := 1) (by decide) ?_
  refine v_sld (v := xs 1) C hX hbl hbA dL_law_348 (ti_in (show (1 : Int32).toInt = 1 by decide) (by decide) (by decide)) rfl ?_
  refine v_aload_n C 0 dL_law_349 rfl rfl ?_
  refine v_iload_n C 3 dL_law_350 rfl rfl ?_
  refine v_iconst (v := 2) C dL_law_351 (by decide) ?_
  refine v_iadd C dL_law_352 ?_
  refine v_eq (y := 2) (by decide) ?_
  refine v_sld (v := xs 2) C hX hbl hbA dL_law_353 (ti_in (show (2 : Int32).toInt = 2 by decide) (by decide) (by decide)) rfl ?_
  refine v_aload_n C 0 dL_law_354 rfl rfl ?_
  refine v_iload_n C 3 dL_law_355 rfl rfl ?_
  refine v_iconst (v := 3) C dL_law_356 (by decide) ?_
  refine v_iadd C dL_law_357 ?_
  refine v_eq (y := 3) (by decide) ?_
  refine v_sld (v := xs 3) C hX hbl hbA dL_law_358 (ti_in (show (3 : Int32).toInt = 3 by decide) (by decide) (by decide)) rfl ?_
  refine v_cVi C dL_law_359 lL_35 mX8_months 0 (by decide) h0 (by decide) rfl (c_months l G 98 ad E (by decide) h1 h2 h3 h4 h5 hcP hcF (by decide) h0 h6 (xs 1) (xs 2) (xs 3)) ⟨by decide, by decide⟩ rfl (Nat.le_of_ble_eq_true rfl) ⟨by decide, by decide⟩ (fun r1 E2 hq3 => ?_)
  obtain ⟨g1, g2⟩ := hq3
  subst g2
  have gg := (⟨g1, fun _ _ => rfl⟩ : _ ∧ Fr8 E E)
  have g1 := gg.1
  have hM1 : FreshM G ad E := hM.keep (fun _ _ => rfl) (fun j _ h => gg.2 j h)
  refine v_aload_n C 2 dL_law_362 rfl rfl ?_
  refine v_aload_n C 0 dL_law_363 rfl rfl ?_
  refine v_iload_n C 3 dL_law_364 rfl rfl ?_
  refine v_iconst (v := 1) C dL_law_365 (by decide) ?_
  refine v_iadd C dL_law_366 ?_
  refine v_eq (y := 1) (by decide) ?_
  refine v_sld (v := xs 1) C hX hbl hbA dL_law_367 (ti_in (show (1 : Int32).toInt = 1 by decide) (by decide) (by decide)) rfl ?_
  refine v_aload_n C 0 dL_law_368 rfl rfl ?_
  refine v_iload_n C 3 dL_law_369 rfl rfl ?_
  refine v_iconst (v := 2) C dL_law_370 (by decide) ?_
  refine v_iadd C dL_law_371 ?_
  refine v_eq (y := 2) (by decide) ?_
  refine v_sld (v := xs 2) C hX hbl hbA dL_law_372 (ti_in (show (2 : Int32).toInt = 2 by decide) (by decide) (by decide)) rfl ?_
  refine v_aload_n C 0 dL_law_373 rfl rfl ?_
  refine v_iload_n C 3 dL_law_374 rfl rfl ?_
  refine v_iconst (v := 3) C dL_law_375 (by decide) ?_
  refine v_iadd C dL_law_376 ?_
  refine v_eq (y := 3) (by decide) ?_
  refine v_sld (v := xs 3) C hX hbl hbA dL_law_377 (ti_in (show (3 : Int32).toInt = 3 by decide) (by decide) (by decide)) rfl ?_
  refine v_cVi C dL_law_378 lL_38 mX9_months 68 (by decide) hM1.1 (by decide) rfl (d_months l G 98 ad E (by decide) hM1.cal (xs 1) (xs 2) (xs 3)) ⟨by decide, by decide⟩ rfl (Nat.le_of_ble_eq_true rfl) ⟨by decide, by decide⟩ (fun r4 E5 hq6 => ?_)
  have geq : r1.toInt = r4.toInt := MOp_one cal0 g1 hq6.1
  refine b_icmp_eq C 1288 dL_law_381 (by decide) (rfl : Int32.toInt r1 = _) (rfl : Int32.toInt r4 = _) (fun c7 => ?_) (fun c7 => absurd geq c7)
  refine v_sub (lv' := [(0, .ref b), (3, .int 0)]) [0, 3] rfl ?_
  exact lw_tail C hX hbl hbA hA hlr (by decide) (by decide)
set_option maxRecDepth 20000 in
theorem lw_k6 {X : Mx} {l : Launch} {G : Gl} {A : Nat → Prop} (C : Cx X l G A "OddHoursLaw" code 4 ret room_1) {b : Nat} {xs : Nat → Int32} (hX : va_X b 6 xs X.s X.s.heap) (hbl : b < X.s.heap.size) (hbA : ¬ A b) (hA : ∀ q, A q → X.s.heap.size ≤ q) (hlr : X.args = #[Value.ref b]) {ad : Nat → Nat} {E : Nat → va_E} (h8 : Fresh8 G ad E) (hM : FreshM G ad E) : V X G A 4 (lw_Z X.below #[Value.ref b] X.s) 98 ad 1000 400000 E 386 [(0, .ref b), (1, .ref (ad 0)), (2, .ref (ad 68)), (3, .int 0)] [] := by
  obtain ⟨h0, ⟨ms1, ld1, ys1, h1, h2, h3, h4, h5, hcP, hcF⟩, h6, h7, h8a, hPf, h45, h46, h47, h48, h49, h50, h51, hq52, hq58, h64, h65, h66, h67⟩ := h8
  have hz : (ip0 1).toInt = 0 := by decide
  have hPr : ∀ i, i < 6 → E (9 + 6 * i) = ob 5 (rP ad (9 + 6 * i)) ip0 := fun i hi => (hPf i hi).1
  refine v_aload_n C 1 dL_law_386 rfl rfl ?_
  refine v_aload_n C 0 dL_law_387 rfl rfl ?_
  refine v_iload_n C 3 dL_law_388 rfl rfl ?_
  refine v_iconst (v := 1) C dL_law_389 (by decide) ?_
  refine v_iadd C dL_law_390 ?_
  refine v_eq (y := 1) (by decide) ?_
  refine v_sld (v := xs 1) C hX hbl hbA dL_law_391 (ti_in (show (1 : Int32).toInt = 1 by decide) (by decide) (by decide)) rfl ?_
  refine v_aload_n C 0 dL_law_392 rfl rfl ?_
  refine v_iload_n C 3 dL_law_393 rfl rfl ?_
  refine v_iconst (v := 2) C dL_law_394 (by decide) ?_
  refine v_iadd C dL_law_395 ?_
  refine v_eq (y := 2) (by decide) ?_
  refine v_sld (v := xs 2) C hX hbl hbA dL_law_396 (ti_in (show (2 : Int32).toInt = 2 by decide) (by decide) (by decide)) rfl ?_
  refine v_aload_n C 0 dL_law_397 rfl rfl ?_
  refine v_iload_n C 3 dL_law_398 rfl rfl ?_
  refine v_iconst (v := 3) C dL_law_399 (by decide) ?_
  refine v_iadd C dL_law_400 ?_
  refine v_eq (y := 3) (by decide) ?_
  refine v_sld (v := xs 3) C hX hbl hbA dL_law_401 (ti_in (show (3 : Int32).toInt = 3 by decide) (by decide) (by decide)) rfl ?_
  refine v_cVi C dL_law_402 lL_39 mX8_nth 0 (by decide) h0 (by decide) rfl (c_nth l G 98 ad E (by decide) h1 h2 h3 h4 h5 hcP hcF (by decide) h0 h6 (xs 1) (xs 2) (xs 3)) ⟨by decide, by decide⟩ rfl (Nat.le_of_ble_eq_true rfl) ⟨by decide, by decide⟩ (fun r1 E2 hq3 => ?_)
  obtain ⟨g1, g2⟩ := hq3
  subst g2
  have gg := (⟨g1, fun _ _ => rfl⟩ : _ ∧ Fr8 E E)
  have g1 := gg.1
  have hM1 : FreshM G ad E := hM.keep (fun _ _ => rfl) (fun j _ h => gg.2 j h)
  refine v_aload_n C 2 dL_law_405 rfl rfl ?_
  refine v_aload_n C 0 dL_law_406 rfl rfl ?_
  refine v_iload_n C 3 dL_law_407 rfl rfl ?_
  refine v_iconst (v := 1) C dL_law_408 (by decide) ?_
  refine v_iadd C dL_law_409 ?_
  refine v_eq (y := 1) (by decide) ?_
  refine v_sld (v := xs 1) C hX hbl hbA dL_law_410 (ti_in (show (1 : Int32).toInt = 1 by decide) (by decide) (by decide)) rfl ?_
  refine v_aload_n C 0 dL_law_411 rfl rfl ?_
  refine v_iload_n C 3 dL_law_412 rfl rfl ?_
  refine v_iconst (v := 2) C dL_law_413 (by decide) ?_
  refine v_iadd C dL_law_414 ?_
  refine v_eq (y := 2) (by decide) ?_
  refine v_sld (v := xs 2) C hX hbl hbA dL_law_415 (ti_in (show (2 : Int32).toInt = 2 by decide) (by decide) (by decide)) rfl ?_
  refine v_aload_n C 0 dL_law_416 rfl rfl ?_
  refine v_iload_n C 3 dL_law_417 rfl rfl ?_
  refine v_iconst (v := 3) C dL_law_418 (by decide) ?_
  refine v_iadd C dL_law_419 ?_
  refine v_eq (y := 3) (by decide) ?_
  refine v_sld (v := xs 3) C hX hbl hbA dL_law_420 (ti_in (show (3 : Int32).toInt = 3 by decide) (by decide) (by decide)) rfl ?_
  refine v_cVi C dL_law_421 lL_42 mX9_nth 68 (by decide) hM1.1 (by decide) rfl (d_nth l G 98 ad E (by decide) hM1.cal (xs 1) (xs 2) (xs 3)) ⟨by decide, by decide⟩ rfl (Nat.le_of_ble_eq_true rfl) ⟨by decide, by decide⟩ (fun r4 E5 hq6 => ?_)
  have geq : r1.toInt = r4.toInt := g1.trans (Eq.symm hq6.1)
  refine b_icmp_eq C 1288 dL_law_424 (by decide) (rfl : Int32.toInt r1 = _) (rfl : Int32.toInt r4 = _) (fun c7 => ?_) (fun c7 => absurd geq c7)
  refine v_sub (lv' := [(0, .ref b), (3, .int 0)]) [0, 3] rfl ?_
  exact lw_tail C hX hbl hbA hA hlr (by decide) (by decide)
set_option maxRecDepth 20000 in
theorem lw_k7 {X : Mx} {l : Launch} {G : Gl} {A : Nat → Prop} (C : Cx X l G A "OddHoursLaw" code 4 ret room_1) {b : Nat} {xs : Nat → Int32} (hX : va_X b 6 xs X.s X.s.heap) (hbl : b < X.s.heap.size) (hbA : ¬ A b) (hA : ∀ q, A q → X.s.heap.size ≤ q) (hlr : X.args = #[Value.ref b]) {ad : Nat → Nat} {E : Nat → va_E} (h8 : Fresh8 G ad E) (hM : FreshM G ad E) : V X G A 4 (lw_Z X.below #[Value.ref b] X.s) 98 ad 1000 400000 E 429 [(0, .ref b), (1, .ref (ad 0)), (2, .ref (ad 68)), (3, .int 0)] [] := by
  obtain ⟨h0, ⟨ms1, ld1, ys1, h1, h2, h3, h4, h5, hcP, hcF⟩, h6, h7, h8a, hPf, h45, h46, h47, h48, h49, h50, h51, hq52, hq58, h64, h65, h66, h67⟩ := h8
  have hz : (ip0 1).toInt = 0 := by decide
  have hPr : ∀ i, i < 6 → E (9 + 6 * i) = ob 5 (rP ad (9 + 6 * i)) ip0 := fun i hi => (hPf i hi).1
  refine v_aload_n C 1 dL_law_429 rfl rfl ?_
  refine v_aload_n C 0 dL_law_430 rfl rfl ?_
  refine v_iload_n C 3 dL_law_431 rfl rfl ?_
  refine v_iconst (v := 1) C dL_law_432 (by decide) ?_
  refine v_iadd C dL_law_433 ?_
  refine v_eq (y := 1) (by decide) ?_
  refine v_sld (v := xs 1) C hX hbl hbA dL_law_434 (ti_in (show (1 : Int32).toInt = 1 by decide) (by decide) (by decide)) rfl ?_
  refine v_cVz C dL_law_435 lL_43 mX8_zone 0 (by decide) h0 (by decide) rfl (e_zone l G ad E (xs 1) h0 h6 h7 h45) ⟨by decide, by decide⟩ rfl (Nat.le_of_ble_eq_true rfl) ⟨by decide, by decide⟩ (fun r1 n5 ad4 E2 hq3 => ?_)
  obtain ⟨g1, hn1, hA1, hO1⟩ := hq3
  dsimp only at hn1 hA1 hO1
  have hM1 := hM.keep hA1 hO1
  have aad4_0 := hA1 0 (by decide)
  have aad4_68 := hA1 68 (by decide)
  refine v_cast (lv' := [(0, .ref b), (1, .ref (ad4 0)), (2, .ref (ad4 68)), (3, .int 0)]) (st' := [.int r1]) (by rw [aad4_0, aad4_68]) (rfl) ?_
  refine v_aload_n C 2 dL_law_438 rfl rfl ?_
  refine v_aload_n C 0 dL_law_439 rfl rfl ?_
  refine v_iload_n C 3 dL_law_440 rfl rfl ?_
  refine v_iconst (v := 1) C dL_law_441 (by decide) ?_
  refine v_iadd C dL_law_442 ?_
  refine v_eq (y := 1) (by decide) ?_
  refine v_sld (v := xs 1) C hX hbl hbA dL_law_443 (ti_in (show (1 : Int32).toInt = 1 by decide) (by decide) (by decide)) rfl ?_
  refine v_cVi C dL_law_444 lL_47 mX9_zone 68 (by omega) hM1.1 (by decide) rfl (m_zone l G n5 ad4 E2 hn1 hM1 (xs 1)) ⟨by decide, by decide⟩ rfl (Nat.le_of_ble_eq_true rfl) ⟨by decide, by decide⟩ (fun r6 E7 hq8 => ?_)
  have geq : r1.toInt = r6.toInt := g1.trans (Eq.symm hq8)
  refine b_icmp_eq C 1288 dL_law_447 (by decide) (rfl : Int32.toInt r1 = _) (rfl : Int32.toInt r6 = _) (fun c9 => ?_) (fun c9 => absurd geq c9)
  refine v_sub (lv' := [(0, .ref b), (3, .int 0)]) [0, 3] rfl ?_
  exact lw_tail C hX hbl hbA hA hlr (by decide) (by decide)
set_option maxRecDepth 20000 in
theorem lw_k8 {X : Mx} {l : Launch} {G : Gl} {A : Nat → Prop} (C : Cx X l G A "OddHoursLaw" code 4 ret room_1) {b : Nat} {xs : Nat → Int32} (hX : va_X b 6 xs X.s X.s.heap) (hbl : b < X.s.heap.size) (hbA : ¬ A b) (hA : ∀ q, A q → X.s.heap.size ≤ q) (hlr : X.args = #[Value.ref b]) {ad : Nat → Nat} {E : Nat → va_E} (h8 : Fresh8 G ad E) (hM : FreshM G ad E) : V X G A 4 (lw_Z X.below #[Value.ref b] X.s) 98 ad 1000 400000 E 452 [(0, .ref b), (1, .ref (ad 0)), (2, .ref (ad 68)), (3, .int 0)] [] := by
  obtain ⟨h0, ⟨ms1, ld1, ys1, h1, h2, h3, h4, h5, hcP, hcF⟩, h6, h7, h8a, hPf, h45, h46, h47, h48, h49, h50, h51, hq52, hq58, h64, h65, h66, h67⟩ := h8
  have hz : (ip0 1).toInt = 0 := by decide
  have hPr : ∀ i, i < 6 → E (9 + 6 * i) = ob 5 (rP ad (9 + 6 * i)) ip0 := fun i hi => (hPf i hi).1
  refine v_aload_n C 1 dL_law_452 rfl rfl ?_
  refine v_aload_n C 0 dL_law_453 rfl rfl ?_
  refine v_iload_n C 3 dL_law_454 rfl rfl ?_
  refine v_iconst (v := 1) C dL_law_455 (by decide) ?_
  refine v_iadd C dL_law_456 ?_
  refine v_eq (y := 1) (by decide) ?_
  refine v_sld (v := xs 1) C hX hbl hbA dL_law_457 (ti_in (show (1 : Int32).toInt = 1 by decide) (by decide) (by decide)) rfl ?_
  refine v_aload_n C 0 dL_law_458 rfl rfl ?_
  refine v_iload_n C 3 dL_law_459 rfl rfl ?_
  refine v_iconst (v := 2) C dL_law_460 (by decide) ?_
  refine v_iadd C dL_law_461 ?_
  refine v_eq (y := 2) (by decide) ?_
  refine v_sld (v := xs 2) C hX hbl hbA dL_law_462 (ti_in (show (2 : Int32).toInt = 2 by decide) (by decide) (by decide)) rfl ?_
  refine v_aload_n C 0 dL_law_463 rfl rfl ?_
  refine v_iload_n C 3 dL_law_464 rfl rfl ?_
  refine v_iconst (v := 3) C dL_law_465 (by decide) ?_
  refine v_iadd C dL_law_466 ?_
  refine v_eq (y := 3) (by decide) ?_
  refine v_sld (v := xs 3) C hX hbl hbA dL_law_467 (ti_in (show (3 : Int32).toInt = 3 by decide) (by decide) (by decide)) rfl ?_
  refine v_aload_n C 0 dL_law_468 rfl rfl ?_
  refine v_iload_n C 3 dL_law_469 rfl rfl ?_
  refine v_iconst (v := 4) C dL_law_470 (by decide) ?_
  refine v_iadd C dL_law_471 ?_
  refine v_eq (y := 4) (by decide) ?_
  refine v_sld (v := xs 4) C hX hbl hbA dL_law_472 (ti_in (show (4 : Int32).toInt = 4 by decide) (by decide) (by decide)) rfl ?_
  refine v_aload_n C 0 dL_law_473 rfl rfl ?_
  refine v_iload_n C 3 dL_law_474 rfl rfl ?_
  refine v_iconst (v := 5) C dL_law_475 (by decide) ?_
  refine v_iadd C dL_law_476 ?_
  refine v_eq (y := 5) (by decide) ?_
  refine v_sld (v := xs 5) C hX hbl hbA dL_law_477 (ti_in (show (5 : Int32).toInt = 5 by decide) (by decide) (by decide)) rfl ?_
  refine v_cVi C dL_law_478 lL_48 mX8_rule 0 (by decide) h0 (by decide) rfl (e_rule l G 98 ad E (by decide) h0 h6 hz (xs 1) (xs 2) (xs 3) (xs 4) (xs 5)) ⟨by decide, by decide⟩ rfl (Nat.le_of_ble_eq_true rfl) ⟨by decide, by decide⟩ (fun r1 E2 hq3 => ?_)
  have gg := hq3
  have g1 := gg.1
  have hM1 : FreshM G ad E2 := hM.keep (fun _ _ => rfl) (fun j _ h => gg.2 j h)
  refine v_aload_n C 2 dL_law_481 rfl rfl ?_
  refine v_aload_n C 0 dL_law_482 rfl rfl ?_
  refine v_iload_n C 3 dL_law_483 rfl rfl ?_
  refine v_iconst (v := 1) C dL_law_484 (by decide) ?_
  refine v_iadd C dL_law_485 ?_
  refine v_eq (y := 1) (by decide) ?_
  refine v_sld (v := xs 1) C hX hbl hbA dL_law_486 (ti_in (show (1 : Int32).toInt = 1 by decide) (by decide) (by decide)) rfl ?_
  refine v_aload_n C 0 dL_law_487 rfl rfl ?_
  refine v_iload_n C 3 dL_law_488 rfl rfl ?_
  refine v_iconst (v := 2) C dL_law_489 (by decide) ?_
  refine v_iadd C dL_law_490 ?_
  refine v_eq (y := 2) (by decide) ?_
  refine v_sld (v := xs 2) C hX hbl hbA dL_law_491 (ti_in (show (2 : Int32).toInt = 2 by decide) (by decide) (by decide)) rfl ?_
  refine v_aload_n C 0 dL_law_492 rfl rfl ?_
  refine v_iload_n C 3 dL_law_493 rfl rfl ?_
  refine v_iconst (v := 3) C dL_law_494 (by decide) ?_
  refine v_iadd C dL_law_495 ?_
  refine v_eq (y := 3) (by decide) ?_
  refine v_sld (v := xs 3) C hX hbl hbA dL_law_496 (ti_in (show (3 : Int32).toInt = 3 by decide) (by decide) (by decide)) rfl ?_
  refine v_aload_n C 0 dL_law_497 rfl rfl ?_
  refine v_iload_n C 3 dL_law_498 rfl rfl ?_
  refine v_iconst (v := 4) C dL_law_499 (by decide) ?_
  refine v_iadd C dL_law_500 ?_
  refine v_eq (y := 4) (by decide) ?_
  refine v_sld (v := xs 4) C hX hbl hbA dL_law_501 (ti_in (show (4 : Int32).toInt = 4 by decide) (by decide) (by decide)) rfl ?_
  refine v_aload_n C 0 dL_law_502 rfl rfl ?_
  refine v_iload_n C 3 dL_law_503 rfl rfl ?_
  refine v_iconst (v := 5) C dL_law_504 (by decide) ?_
  refine v_iadd C dL_law_505 ?_
  refine v_eq (y := 5) (by decide) ?_
  refine v_sld (v := xs 5) C hX hbl hbA dL_law_506 (ti_in (show (5 : Int32).toInt = 5 by decide) (by decide) (by decide)) rfl ?_
  refine v_cVi C dL_law_507 lL_52 mX9_rule 68 (by decide) hM1.1 (by decide) rfl (m_rule l G 98 ad E2 (by decide) hM1 (xs 1) (xs 2) (xs 3) (xs 4) (xs 5)) ⟨by decide, by decide⟩ rfl (Nat.le_of_ble_eq_true rfl) ⟨by decide, by decide⟩ (fun r4 E5 hq6 => ?_)
  have geq : r1.toInt = r4.toInt := g1.trans (Eq.symm hq6)
  refine b_icmp_eq C 1288 dL_law_510 (by decide) (rfl : Int32.toInt r1 = _) (rfl : Int32.toInt r4 = _) (fun c7 => ?_) (fun c7 => absurd geq c7)
  refine v_sub (lv' := [(0, .ref b), (3, .int 0)]) [0, 3] rfl ?_
  exact lw_tail C hX hbl hbA hA hlr (by decide) (by decide)
set_option maxRecDepth 20000 in
theorem lw_k9 {X : Mx} {l : Launch} {G : Gl} {A : Nat → Prop} (C : Cx X l G A "OddHoursLaw" code 4 ret room_1) {b : Nat} {xs : Nat → Int32} (hX : va_X b 6 xs X.s X.s.heap) (hbl : b < X.s.heap.size) (hbA : ¬ A b) (hA : ∀ q, A q → X.s.heap.size ≤ q) (hlr : X.args = #[Value.ref b]) {ad : Nat → Nat} {E : Nat → va_E} (h8 : Fresh8 G ad E) (hM : FreshM G ad E) : V X G A 4 (lw_Z X.below #[Value.ref b] X.s) 98 ad 1000 400000 E 515 [(0, .ref b), (1, .ref (ad 0)), (2, .ref (ad 68)), (3, .int 0)] [] := by
  obtain ⟨h0, ⟨ms1, ld1, ys1, h1, h2, h3, h4, h5, hcP, hcF⟩, h6, h7, h8a, hPf, h45, h46, h47, h48, h49, h50, h51, hq52, hq58, h64, h65, h66, h67⟩ := h8
  have hz : (ip0 1).toInt = 0 := by decide
  have hPr : ∀ i, i < 6 → E (9 + 6 * i) = ob 5 (rP ad (9 + 6 * i)) ip0 := fun i hi => (hPf i hi).1
  refine v_aload_n C 1 dL_law_515 rfl rfl ?_
  refine v_aload_n C 0 dL_law_516 rfl rfl ?_
  refine v_iload_n C 3 dL_law_517 rfl rfl ?_
  refine v_iconst (v := 1) C dL_law_518 (by decide) ?_
  refine v_iadd C dL_law_519 ?_
  refine v_eq (y := 1) (by decide) ?_
  refine v_sld (v := xs 1) C hX hbl hbA dL_law_520 (ti_in (show (1 : Int32).toInt = 1 by decide) (by decide) (by decide)) rfl ?_
  refine v_cVi C dL_law_521 lL_53 mX8_today 0 (by decide) h0 (by decide) rfl (c_today l G 98 ad E (by decide) h0 (xs 1)) ⟨by decide, by decide⟩ rfl (Nat.le_of_ble_eq_true rfl) ⟨by decide, by decide⟩ (fun r1 E2 hq3 => ?_)
  have z6 : (io0 6).toInt = 0 := by decide
  rw [z6] at hq3
  have gg : (r1.toInt = if 0 ≤ (xs 1).toInt ∧ (xs 1).toInt ≤ 99999 then 0 else -1) ∧ Fr8 E E2 := by
    rcases hq3 with ⟨a1, a2, a3⟩ | ⟨a1, a2, a3, a4⟩
    · exact ⟨by rw [if_neg a1]; exact a2, fun _ _ => by rw [a3]⟩
    · exact ⟨by rw [if_pos a1, a2]; exact z6, fun j hj => a4 j (by omega)⟩
  have g1 := gg.1
  have hM1 : FreshM G ad E2 := hM.keep (fun _ _ => rfl) (fun j _ h => gg.2 j h)
  refine v_aload_n C 2 dL_law_524 rfl rfl ?_
  refine v_aload_n C 0 dL_law_525 rfl rfl ?_
  refine v_iload_n C 3 dL_law_526 rfl rfl ?_
  refine v_iconst (v := 1) C dL_law_527 (by decide) ?_
  refine v_iadd C dL_law_528 ?_
  refine v_eq (y := 1) (by decide) ?_
  refine v_sld (v := xs 1) C hX hbl hbA dL_law_529 (ti_in (show (1 : Int32).toInt = 1 by decide) (by decide) (by decide)) rfl ?_
  refine v_cVi C dL_law_530 lL_56 mX9_today 68 (by decide) hM1.1 (by decide) rfl (m_today l G 98 ad E2 (by decide) hM1 (xs 1)) ⟨by decide, by decide⟩ rfl (Nat.le_of_ble_eq_true rfl) ⟨by decide, by decide⟩ (fun r4 E5 hq6 => ?_)
  have geq : r1.toInt = r4.toInt := g1.trans (Eq.symm hq6)
  refine b_icmp_eq C 1288 dL_law_533 (by decide) (rfl : Int32.toInt r1 = _) (rfl : Int32.toInt r4 = _) (fun c7 => ?_) (fun c7 => absurd geq c7)
  refine v_sub (lv' := [(0, .ref b), (3, .int 0)]) [0, 3] rfl ?_
  exact lw_tail C hX hbl hbA hA hlr (by decide) (by decide)
set_option maxRecDepth 20000 in
theorem lw_k10 {X : Mx} {l : Launch} {G : Gl} {A : Nat → Prop} (C : Cx X l G A "OddHoursLaw" code 4 ret room_1) {b : Nat} {xs : Nat → Int32} (hX : va_X b 6 xs X.s X.s.heap) (hbl : b < X.s.heap.size) (hbA : ¬ A b) (hA : ∀ q, A q → X.s.heap.size ≤ q) (hlr : X.args = #[Value.ref b]) {ad : Nat → Nat} {E : Nat → va_E} (h8 : Fresh8 G ad E) (hM : FreshM G ad E) : V X G A 4 (lw_Z X.below #[Value.ref b] X.s) 98 ad 1000 400000 E 538 [(0, .ref b), (1, .ref (ad 0)), (2, .ref (ad 68)), (3, .int 0)] [] := by
  obtain ⟨h0, ⟨ms1, ld1, ys1, h1, h2, h3, h4, h5, hcP, hcF⟩, h6, h7, h8a, hPf, h45, h46, h47, h48, h49, h50, h51, hq52, hq58, h64, h65, h66, h67⟩ := h8
  have hz : (ip0 1).toInt = 0 := by decide
  have hPr : ∀ i, i < 6 → E (9 + 6 * i) = ob 5 (rP ad (9 + 6 * i)) ip0 := fun i hi => (hPf i hi).1
  refine v_aload_n C 1 dL_law_538 rfl rfl ?_
  refine v_aload_n C 0 dL_law_539 rfl rfl ?_
  refine v_iload_n C 3 dL_law_540 rfl rfl ?_
  refine v_iconst (v := 1) C dL_law_541 (by decide) ?_
  refine v_iadd C dL_law_542 ?_
  refine v_eq (y := 1) (by decide) ?_
  refine v_sld (v := xs 1) C hX hbl hbA dL_law_543 (ti_in (show (1 : Int32).toInt = 1 by decide) (by decide) (by decide)) rfl ?_
  refine v_cVi C dL_law_544 lL_57 mX8_known 0 (by decide) h0 (by decide) rfl (c_known l G 98 ad E (by decide) h0 h45 (xs 1)) ⟨by decide, by decide⟩ rfl (Nat.le_of_ble_eq_true rfl) ⟨by decide, by decide⟩ (fun r1 E2 hq3 => ?_)
  have gg : (r1.toInt = if 0 ≤ (xs 1).toInt ∧ (xs 1).toInt ≤ 99999 then 99999 else -1) ∧ Fr8 E E2 := by
    rcases hq3 with ⟨a1, a2, a3⟩ | ⟨a1, a2, a3, a4, a5⟩
    · exact ⟨by rw [if_neg a1]; exact a2, fun _ _ => by rw [a3]⟩
    · exact ⟨by rw [if_pos a1, a2]; decide, fun j hj => a5 j (by omega) (by omega)⟩
  have g1 := gg.1
  have hM1 : FreshM G ad E2 := hM.keep (fun _ _ => rfl) (fun j _ h => gg.2 j h)
  refine v_aload_n C 2 dL_law_547 rfl rfl ?_
  refine v_aload_n C 0 dL_law_548 rfl rfl ?_
  refine v_iload_n C 3 dL_law_549 rfl rfl ?_
  refine v_iconst (v := 1) C dL_law_550 (by decide) ?_
  refine v_iadd C dL_law_551 ?_
  refine v_eq (y := 1) (by decide) ?_
  refine v_sld (v := xs 1) C hX hbl hbA dL_law_552 (ti_in (show (1 : Int32).toInt = 1 by decide) (by decide) (by decide)) rfl ?_
  refine v_cVi C dL_law_553 lL_60 mX9_known 68 (by decide) hM1.1 (by decide) rfl (m_known l G 98 ad E2 (by decide) hM1 (xs 1)) ⟨by decide, by decide⟩ rfl (Nat.le_of_ble_eq_true rfl) ⟨by decide, by decide⟩ (fun r4 E5 hq6 => ?_)
  have geq : r1.toInt = r4.toInt := g1.trans (Eq.symm hq6)
  refine b_icmp_eq C 1288 dL_law_556 (by decide) (rfl : Int32.toInt r1 = _) (rfl : Int32.toInt r4 = _) (fun c7 => ?_) (fun c7 => absurd geq c7)
  refine v_sub (lv' := [(0, .ref b), (3, .int 0)]) [0, 3] rfl ?_
  exact lw_tail C hX hbl hbA hA hlr (by decide) (by decide)
set_option maxRecDepth 20000 in
theorem lw_k11 {X : Mx} {l : Launch} {G : Gl} {A : Nat → Prop} (C : Cx X l G A "OddHoursLaw" code 4 ret room_1) {b : Nat} {xs : Nat → Int32} (hX : va_X b 6 xs X.s X.s.heap) (hbl : b < X.s.heap.size) (hbA : ¬ A b) (hA : ∀ q, A q → X.s.heap.size ≤ q) (hlr : X.args = #[Value.ref b]) {ad : Nat → Nat} {E : Nat → va_E} (h8 : Fresh8 G ad E) (hM : FreshM G ad E) : V X G A 4 (lw_Z X.below #[Value.ref b] X.s) 98 ad 1000 400000 E 561 [(0, .ref b), (1, .ref (ad 0)), (2, .ref (ad 68)), (3, .int 0)] [] := by
  obtain ⟨h0, ⟨ms1, ld1, ys1, h1, h2, h3, h4, h5, hcP, hcF⟩, h6, h7, h8a, hPf, h45, h46, h47, h48, h49, h50, h51, hq52, hq58, h64, h65, h66, h67⟩ := h8
  have hz : (ip0 1).toInt = 0 := by decide
  have hPr : ∀ i, i < 6 → E (9 + 6 * i) = ob 5 (rP ad (9 + 6 * i)) ip0 := fun i hi => (hPf i hi).1
  refine v_aload_n C 1 dL_law_561 rfl rfl ?_
  refine v_aload_n C 0 dL_law_562 rfl rfl ?_
  refine v_iload_n C 3 dL_law_563 rfl rfl ?_
  refine v_iconst (v := 1) C dL_law_564 (by decide) ?_
  refine v_iadd C dL_law_565 ?_
  refine v_eq (y := 1) (by decide) ?_
  refine v_sld (v := xs 1) C hX hbl hbA dL_law_566 (ti_in (show (1 : Int32).toInt = 1 by decide) (by decide) (by decide)) rfl ?_
  refine v_cVi C dL_law_567 lL_61 mX8_changes 0 (by decide) h0 (by decide) rfl (e_changes l G 98 ad E (by decide) h0 h6 hz (xs 1)) ⟨by decide, by decide⟩ rfl (Nat.le_of_ble_eq_true rfl) ⟨by decide, by decide⟩ (fun r1 E2 hq3 => ?_)
  have gg := hq3
  have g1 := gg.1
  have hM1 : FreshM G ad E2 := hM.keep (fun _ _ => rfl) (fun j _ h => gg.2 j h)
  refine v_aload_n C 2 dL_law_570 rfl rfl ?_
  refine v_aload_n C 0 dL_law_571 rfl rfl ?_
  refine v_iload_n C 3 dL_law_572 rfl rfl ?_
  refine v_iconst (v := 1) C dL_law_573 (by decide) ?_
  refine v_iadd C dL_law_574 ?_
  refine v_eq (y := 1) (by decide) ?_
  refine v_sld (v := xs 1) C hX hbl hbA dL_law_575 (ti_in (show (1 : Int32).toInt = 1 by decide) (by decide) (by decide)) rfl ?_
  refine v_cVi C dL_law_576 lL_64 mX9_changes 68 (by decide) hM1.1 (by decide) rfl (m_changes l G 98 ad E2 (by decide) hM1 (xs 1)) ⟨by decide, by decide⟩ rfl (Nat.le_of_ble_eq_true rfl) ⟨by decide, by decide⟩ (fun r4 E5 hq6 => ?_)
  have geq : r1.toInt = r4.toInt := g1.trans (Eq.symm hq6)
  refine b_icmp_eq C 1288 dL_law_579 (by decide) (rfl : Int32.toInt r1 = _) (rfl : Int32.toInt r4 = _) (fun c7 => ?_) (fun c7 => absurd geq c7)
  refine v_sub (lv' := [(0, .ref b), (3, .int 0)]) [0, 3] rfl ?_
  exact lw_tail C hX hbl hbA hA hlr (by decide) (by decide)
set_option maxRecDepth 20000 in
theorem lw_k12 {X : Mx} {l : Launch} {G : Gl} {A : Nat → Prop} (C : Cx X l G A "OddHoursLaw" code 4 ret room_1) {b : Nat} {xs : Nat → Int32} (hX : va_X b 6 xs X.s X.s.heap) (hbl : b < X.s.heap.size) (hbA : ¬ A b) (hA : ∀ q, A q → X.s.heap.size ≤ q) (hlr : X.args = #[Value.ref b]) {ad : Nat → Nat} {E : Nat → va_E} (h8 : Fresh8 G ad E) (hM : FreshM G ad E) : V X G A 4 (lw_Z X.below #[Value.ref b] X.s) 98 ad 1000 400000 E 584 [(0, .ref b), (1, .ref (ad 0)), (2, .ref (ad 68)), (3, .int 0)] [] := by
  obtain ⟨h0, ⟨ms1, ld1, ys1, h1, h2, h3, h4, h5, hcP, hcF⟩, h6, h7, h8a, hPf, h45, h46, h47, h48, h49, h50, h51, hq52, hq58, h64, h65, h66, h67⟩ := h8
  have hz : (ip0 1).toInt = 0 := by decide
  have hPr : ∀ i, i < 6 → E (9 + 6 * i) = ob 5 (rP ad (9 + 6 * i)) ip0 := fun i hi => (hPf i hi).1
  refine v_aload_n C 1 dL_law_584 rfl rfl ?_
  refine v_aload_n C 0 dL_law_585 rfl rfl ?_
  refine v_iload_n C 3 dL_law_586 rfl rfl ?_
  refine v_iconst (v := 1) C dL_law_587 (by decide) ?_
  refine v_iadd C dL_law_588 ?_
  refine v_eq (y := 1) (by decide) ?_
  refine v_sld (v := xs 1) C hX hbl hbA dL_law_589 (ti_in (show (1 : Int32).toInt = 1 by decide) (by decide) (by decide)) rfl ?_
  refine v_aload_n C 0 dL_law_590 rfl rfl ?_
  refine v_iload_n C 3 dL_law_591 rfl rfl ?_
  refine v_iconst (v := 2) C dL_law_592 (by decide) ?_
  refine v_iadd C dL_law_593 ?_
  refine v_eq (y := 2) (by decide) ?_
  refine v_sld (v := xs 2) C hX hbl hbA dL_law_594 (ti_in (show (2 : Int32).toInt = 2 by decide) (by decide) (by decide)) rfl ?_
  refine v_cVi C dL_law_595 lL_65 mX8_change 0 (by decide) h0 (by decide) rfl (e_change l G 98 ad E (by decide) h0 h6 hz (xs 1) (xs 2)) ⟨by decide, by decide⟩ rfl (Nat.le_of_ble_eq_true rfl) ⟨by decide, by decide⟩ (fun r1 E2 hq3 => ?_)
  have gg := hq3
  have g1 := gg.1
  have hM1 : FreshM G ad E2 := hM.keep (fun _ _ => rfl) (fun j _ h => gg.2 j h)
  refine v_aload_n C 2 dL_law_598 rfl rfl ?_
  refine v_aload_n C 0 dL_law_599 rfl rfl ?_
  refine v_iload_n C 3 dL_law_600 rfl rfl ?_
  refine v_iconst (v := 1) C dL_law_601 (by decide) ?_
  refine v_iadd C dL_law_602 ?_
  refine v_eq (y := 1) (by decide) ?_
  refine v_sld (v := xs 1) C hX hbl hbA dL_law_603 (ti_in (show (1 : Int32).toInt = 1 by decide) (by decide) (by decide)) rfl ?_
  refine v_aload_n C 0 dL_law_604 rfl rfl ?_
  refine v_iload_n C 3 dL_law_605 rfl rfl ?_
  refine v_iconst (v := 2) C dL_law_606 (by decide) ?_
  refine v_iadd C dL_law_607 ?_
  refine v_eq (y := 2) (by decide) ?_
  refine v_sld (v := xs 2) C hX hbl hbA dL_law_608 (ti_in (show (2 : Int32).toInt = 2 by decide) (by decide) (by decide)) rfl ?_
  refine v_cVi C dL_law_609 lL_68 mX9_change 68 (by decide) hM1.1 (by decide) rfl (m_change l G 98 ad E2 (by decide) hM1 (xs 1) (xs 2)) ⟨by decide, by decide⟩ rfl (Nat.le_of_ble_eq_true rfl) ⟨by decide, by decide⟩ (fun r4 E5 hq6 => ?_)
  have geq : r1.toInt = r4.toInt := g1.trans (Eq.symm hq6)
  refine b_icmp_eq C 1288 dL_law_612 (by decide) (rfl : Int32.toInt r1 = _) (rfl : Int32.toInt r4 = _) (fun c7 => ?_) (fun c7 => absurd geq c7)
  refine v_sub (lv' := [(0, .ref b), (3, .int 0)]) [0, 3] rfl ?_
  exact lw_tail C hX hbl hbA hA hlr (by decide) (by decide)
set_option maxRecDepth 20000 in
theorem lw_k13 {X : Mx} {l : Launch} {G : Gl} {A : Nat → Prop} (C : Cx X l G A "OddHoursLaw" code 4 ret room_1) {b : Nat} {xs : Nat → Int32} (hX : va_X b 6 xs X.s X.s.heap) (hbl : b < X.s.heap.size) (hbA : ¬ A b) (hA : ∀ q, A q → X.s.heap.size ≤ q) (hlr : X.args = #[Value.ref b]) {ad : Nat → Nat} {E : Nat → va_E} (h8 : Fresh8 G ad E) (hM : FreshM G ad E) : V X G A 4 (lw_Z X.below #[Value.ref b] X.s) 98 ad 1000 400000 E 617 [(0, .ref b), (1, .ref (ad 0)), (2, .ref (ad 68)), (3, .int 0)] [] := by
  obtain ⟨h0, ⟨ms1, ld1, ys1, h1, h2, h3, h4, h5, hcP, hcF⟩, h6, h7, h8a, hPf, h45, h46, h47, h48, h49, h50, h51, hq52, hq58, h64, h65, h66, h67⟩ := h8
  have hz : (ip0 1).toInt = 0 := by decide
  have hPr : ∀ i, i < 6 → E (9 + 6 * i) = ob 5 (rP ad (9 + 6 * i)) ip0 := fun i hi => (hPf i hi).1
  refine v_aload_n C 1 dL_law_617 rfl rfl ?_
  refine v_aload_n C 0 dL_law_618 rfl rfl ?_
  refine v_iload_n C 3 dL_law_619 rfl rfl ?_
  refine v_iconst (v := 1) C dL_law_620 (by decide) ?_
  refine v_iadd C dL_law_621 ?_
  refine v_eq (y := 1) (by decide) ?_
  refine v_sld (v := xs 1) C hX hbl hbA dL_law_622 (ti_in (show (1 : Int32).toInt = 1 by decide) (by decide) (by decide)) rfl ?_
  refine v_aload_n C 0 dL_law_623 rfl rfl ?_
  refine v_iload_n C 3 dL_law_624 rfl rfl ?_
  refine v_iconst (v := 2) C dL_law_625 (by decide) ?_
  refine v_iadd C dL_law_626 ?_
  refine v_eq (y := 2) (by decide) ?_
  refine v_sld (v := xs 2) C hX hbl hbA dL_law_627 (ti_in (show (2 : Int32).toInt = 2 by decide) (by decide) (by decide)) rfl ?_
  refine v_cVi C dL_law_628 lL_69 mX8_offset 0 (by decide) h0 (by decide) rfl (e_offset l G 98 ad E (by decide) h0 h6 hz (xs 1) (xs 2)) ⟨by decide, by decide⟩ rfl (Nat.le_of_ble_eq_true rfl) ⟨by decide, by decide⟩ (fun r1 E2 hq3 => ?_)
  have gg := hq3
  have g1 := gg.1
  have hM1 : FreshM G ad E2 := hM.keep (fun _ _ => rfl) (fun j _ h => gg.2 j h)
  refine v_aload_n C 2 dL_law_631 rfl rfl ?_
  refine v_aload_n C 0 dL_law_632 rfl rfl ?_
  refine v_iload_n C 3 dL_law_633 rfl rfl ?_
  refine v_iconst (v := 1) C dL_law_634 (by decide) ?_
  refine v_iadd C dL_law_635 ?_
  refine v_eq (y := 1) (by decide) ?_
  refine v_sld (v := xs 1) C hX hbl hbA dL_law_636 (ti_in (show (1 : Int32).toInt = 1 by decide) (by decide) (by decide)) rfl ?_
  refine v_aload_n C 0 dL_law_637 rfl rfl ?_
  refine v_iload_n C 3 dL_law_638 rfl rfl ?_
  refine v_iconst (v := 2) C dL_law_639 (by decide) ?_
  refine v_iadd C dL_law_640 ?_
  refine v_eq (y := 2) (by decide) ?_
  refine v_sld (v := xs 2) C hX hbl hbA dL_law_641 (ti_in (show (2 : Int32).toInt = 2 by decide) (by decide) (by decide)) rfl ?_
  refine v_cVi C dL_law_642 lL_72 mX9_offset 68 (by decide) hM1.1 (by decide) rfl (m_offset l G 98 ad E2 (by decide) hM1 (xs 1) (xs 2)) ⟨by decide, by decide⟩ rfl (Nat.le_of_ble_eq_true rfl) ⟨by decide, by decide⟩ (fun r4 E5 hq6 => ?_)
  have geq : r1.toInt = r4.toInt := g1.trans (Eq.symm hq6)
  refine b_icmp_eq C 1288 dL_law_645 (by decide) (rfl : Int32.toInt r1 = _) (rfl : Int32.toInt r4 = _) (fun c7 => ?_) (fun c7 => absurd geq c7)
  refine v_sub (lv' := [(0, .ref b), (3, .int 0)]) [0, 3] rfl ?_
  exact lw_tail C hX hbl hbA hA hlr (by decide) (by decide)
set_option maxRecDepth 20000 in
theorem lw_k14 {X : Mx} {l : Launch} {G : Gl} {A : Nat → Prop} (C : Cx X l G A "OddHoursLaw" code 4 ret room_1) {b : Nat} {xs : Nat → Int32} (hX : va_X b 6 xs X.s X.s.heap) (hbl : b < X.s.heap.size) (hbA : ¬ A b) (hA : ∀ q, A q → X.s.heap.size ≤ q) (hlr : X.args = #[Value.ref b]) {ad : Nat → Nat} {E : Nat → va_E} (h8 : Fresh8 G ad E) (hM : FreshM G ad E) : V X G A 4 (lw_Z X.below #[Value.ref b] X.s) 98 ad 1000 400000 E 650 [(0, .ref b), (1, .ref (ad 0)), (2, .ref (ad 68)), (3, .int 0)] [] := by
  obtain ⟨h0, ⟨ms1, ld1, ys1, h1, h2, h3, h4, h5, hcP, hcF⟩, h6, h7, h8a, hPf, h45, h46, h47, h48, h49, h50, h51, hq52, hq58, h64, h65, h66, h67⟩ := h8
  have hz : (ip0 1).toInt = 0 := by decide
  have hPr : ∀ i, i < 6 → E (9 + 6 * i) = ob 5 (rP ad (9 + 6 * i)) ip0 := fun i hi => (hPf i hi).1
  refine v_aload_n C 1 dL_law_650 rfl rfl ?_
  refine v_aload_n C 0 dL_law_651 rfl rfl ?_
  refine v_iload_n C 3 dL_law_652 rfl rfl ?_
  refine v_iconst (v := 1) C dL_law_653 (by decide) ?_
  refine v_iadd C dL_law_654 ?_
  refine v_eq (y := 1) (by decide) ?_
  refine v_sld (v := xs 1) C hX hbl hbA dL_law_655 (ti_in (show (1 : Int32).toInt = 1 by decide) (by decide) (by decide)) rfl ?_
  refine v_aload_n C 0 dL_law_656 rfl rfl ?_
  refine v_iload_n C 3 dL_law_657 rfl rfl ?_
  refine v_iconst (v := 2) C dL_law_658 (by decide) ?_
  refine v_iadd C dL_law_659 ?_
  refine v_eq (y := 2) (by decide) ?_
  refine v_sld (v := xs 2) C hX hbl hbA dL_law_660 (ti_in (show (2 : Int32).toInt = 2 by decide) (by decide) (by decide)) rfl ?_
  refine v_cVi C dL_law_661 lL_73 mX8_wall 0 (by decide) h0 (by decide) rfl (e_wall l G 98 ad E (by decide) h0 h6 hz (xs 1) (xs 2)) ⟨by decide, by decide⟩ rfl (Nat.le_of_ble_eq_true rfl) ⟨by decide, by decide⟩ (fun r1 E2 hq3 => ?_)
  have gg := hq3
  have g1 := gg.1
  have hM1 : FreshM G ad E2 := hM.keep (fun _ _ => rfl) (fun j _ h => gg.2 j h)
  refine v_aload_n C 2 dL_law_664 rfl rfl ?_
  refine v_aload_n C 0 dL_law_665 rfl rfl ?_
  refine v_iload_n C 3 dL_law_666 rfl rfl ?_
  refine v_iconst (v := 1) C dL_law_667 (by decide) ?_
  refine v_iadd C dL_law_668 ?_
  refine v_eq (y := 1) (by decide) ?_
  refine v_sld (v := xs 1) C hX hbl hbA dL_law_669 (ti_in (show (1 : Int32).toInt = 1 by decide) (by decide) (by decide)) rfl ?_
  refine v_aload_n C 0 dL_law_670 rfl rfl ?_
  refine v_iload_n C 3 dL_law_671 rfl rfl ?_
  refine v_iconst (v := 2) C dL_law_672 (by decide) ?_
  refine v_iadd C dL_law_673 ?_
  refine v_eq (y := 2) (by decide) ?_
  refine v_sld (v := xs 2) C hX hbl hbA dL_law_674 (ti_in (show (2 : Int32).toInt = 2 by decide) (by decide) (by decide)) rfl ?_
  refine v_cVi C dL_law_675 lL_76 mX9_wall 68 (by decide) hM1.1 (by decide) rfl (m_wall l G 98 ad E2 (by decide) hM1 (xs 1) (xs 2)) ⟨by decide, by decide⟩ rfl (Nat.le_of_ble_eq_true rfl) ⟨by decide, by decide⟩ (fun r4 E5 hq6 => ?_)
  have geq : r1.toInt = r4.toInt := g1.trans (Eq.symm hq6)
  refine b_icmp_eq C 1288 dL_law_678 (by decide) (rfl : Int32.toInt r1 = _) (rfl : Int32.toInt r4 = _) (fun c7 => ?_) (fun c7 => absurd geq c7)
  refine v_sub (lv' := [(0, .ref b), (3, .int 0)]) [0, 3] rfl ?_
  exact lw_tail C hX hbl hbA hA hlr (by decide) (by decide)
set_option maxRecDepth 20000 in
theorem lw_k15 {X : Mx} {l : Launch} {G : Gl} {A : Nat → Prop} (C : Cx X l G A "OddHoursLaw" code 4 ret room_1) {b : Nat} {xs : Nat → Int32} (hX : va_X b 6 xs X.s X.s.heap) (hbl : b < X.s.heap.size) (hbA : ¬ A b) (hA : ∀ q, A q → X.s.heap.size ≤ q) (hlr : X.args = #[Value.ref b]) {ad : Nat → Nat} {E : Nat → va_E} (h8 : Fresh8 G ad E) (hM : FreshM G ad E) : V X G A 4 (lw_Z X.below #[Value.ref b] X.s) 98 ad 1000 400000 E 683 [(0, .ref b), (1, .ref (ad 0)), (2, .ref (ad 68)), (3, .int 0)] [] := by
  obtain ⟨h0, ⟨ms1, ld1, ys1, h1, h2, h3, h4, h5, hcP, hcF⟩, h6, h7, h8a, hPf, h45, h46, h47, h48, h49, h50, h51, hq52, hq58, h64, h65, h66, h67⟩ := h8
  have hz : (ip0 1).toInt = 0 := by decide
  have hPr : ∀ i, i < 6 → E (9 + 6 * i) = ob 5 (rP ad (9 + 6 * i)) ip0 := fun i hi => (hPf i hi).1
  refine v_aload_n C 1 dL_law_683 rfl rfl ?_
  refine v_aload_n C 0 dL_law_684 rfl rfl ?_
  refine v_iload_n C 3 dL_law_685 rfl rfl ?_
  refine v_iconst (v := 1) C dL_law_686 (by decide) ?_
  refine v_iadd C dL_law_687 ?_
  refine v_eq (y := 1) (by decide) ?_
  refine v_sld (v := xs 1) C hX hbl hbA dL_law_688 (ti_in (show (1 : Int32).toInt = 1 by decide) (by decide) (by decide)) rfl ?_
  refine v_aload_n C 0 dL_law_689 rfl rfl ?_
  refine v_iload_n C 3 dL_law_690 rfl rfl ?_
  refine v_iconst (v := 2) C dL_law_691 (by decide) ?_
  refine v_iadd C dL_law_692 ?_
  refine v_eq (y := 2) (by decide) ?_
  refine v_sld (v := xs 2) C hX hbl hbA dL_law_693 (ti_in (show (2 : Int32).toInt = 2 by decide) (by decide) (by decide)) rfl ?_
  refine v_cVi C dL_law_694 lL_77 mX8_moments 0 (by decide) h0 (by decide) rfl (e_moments l G 98 ad E (by decide) h0 h6 hz (xs 1) (xs 2)) ⟨by decide, by decide⟩ rfl (Nat.le_of_ble_eq_true rfl) ⟨by decide, by decide⟩ (fun r1 E2 hq3 => ?_)
  have gg := hq3
  have g1 := gg.1
  have hM1 : FreshM G ad E2 := hM.keep (fun _ _ => rfl) (fun j _ h => gg.2 j h)
  refine v_aload_n C 2 dL_law_697 rfl rfl ?_
  refine v_aload_n C 0 dL_law_698 rfl rfl ?_
  refine v_iload_n C 3 dL_law_699 rfl rfl ?_
  refine v_iconst (v := 1) C dL_law_700 (by decide) ?_
  refine v_iadd C dL_law_701 ?_
  refine v_eq (y := 1) (by decide) ?_
  refine v_sld (v := xs 1) C hX hbl hbA dL_law_702 (ti_in (show (1 : Int32).toInt = 1 by decide) (by decide) (by decide)) rfl ?_
  refine v_aload_n C 0 dL_law_703 rfl rfl ?_
  refine v_iload_n C 3 dL_law_704 rfl rfl ?_
  refine v_iconst (v := 2) C dL_law_705 (by decide) ?_
  refine v_iadd C dL_law_706 ?_
  refine v_eq (y := 2) (by decide) ?_
  refine v_sld (v := xs 2) C hX hbl hbA dL_law_707 (ti_in (show (2 : Int32).toInt = 2 by decide) (by decide) (by decide)) rfl ?_
  refine v_cVi C dL_law_708 lL_80 mX9_moments 68 (by decide) hM1.1 (by decide) rfl (m_moments l G 98 ad E2 (by decide) hM1 (xs 1) (xs 2)) ⟨by decide, by decide⟩ rfl (Nat.le_of_ble_eq_true rfl) ⟨by decide, by decide⟩ (fun r4 E5 hq6 => ?_)
  have geq : r1.toInt = r4.toInt := g1.trans (Eq.symm hq6)
  refine b_icmp_eq C 1288 dL_law_711 (by decide) (rfl : Int32.toInt r1 = _) (rfl : Int32.toInt r4 = _) (fun c7 => ?_) (fun c7 => absurd geq c7)
  refine v_sub (lv' := [(0, .ref b), (3, .int 0)]) [0, 3] rfl ?_
  exact lw_tail C hX hbl hbA hA hlr (by decide) (by decide)
set_option maxRecDepth 20000 in
theorem lw_k16 {X : Mx} {l : Launch} {G : Gl} {A : Nat → Prop} (C : Cx X l G A "OddHoursLaw" code 4 ret room_1) {b : Nat} {xs : Nat → Int32} (hX : va_X b 6 xs X.s X.s.heap) (hbl : b < X.s.heap.size) (hbA : ¬ A b) (hA : ∀ q, A q → X.s.heap.size ≤ q) (hlr : X.args = #[Value.ref b]) {ad : Nat → Nat} {E : Nat → va_E} (h8 : Fresh8 G ad E) (hM : FreshM G ad E) : V X G A 4 (lw_Z X.below #[Value.ref b] X.s) 98 ad 1000 400000 E 716 [(0, .ref b), (1, .ref (ad 0)), (2, .ref (ad 68)), (3, .int 0)] [] := by
  obtain ⟨h0, ⟨ms1, ld1, ys1, h1, h2, h3, h4, h5, hcP, hcF⟩, h6, h7, h8a, hPf, h45, h46, h47, h48, h49, h50, h51, hq52, hq58, h64, h65, h66, h67⟩ := h8
  have hz : (ip0 1).toInt = 0 := by decide
  have hPr : ∀ i, i < 6 → E (9 + 6 * i) = ob 5 (rP ad (9 + 6 * i)) ip0 := fun i hi => (hPf i hi).1
  refine v_aload_n C 1 dL_law_716 rfl rfl ?_
  refine v_aload_n C 0 dL_law_717 rfl rfl ?_
  refine v_iload_n C 3 dL_law_718 rfl rfl ?_
  refine v_iconst (v := 1) C dL_law_719 (by decide) ?_
  refine v_iadd C dL_law_720 ?_
  refine v_eq (y := 1) (by decide) ?_
  refine v_sld (v := xs 1) C hX hbl hbA dL_law_721 (ti_in (show (1 : Int32).toInt = 1 by decide) (by decide) (by decide)) rfl ?_
  refine v_aload_n C 0 dL_law_722 rfl rfl ?_
  refine v_iload_n C 3 dL_law_723 rfl rfl ?_
  refine v_iconst (v := 2) C dL_law_724 (by decide) ?_
  refine v_iadd C dL_law_725 ?_
  refine v_eq (y := 2) (by decide) ?_
  refine v_sld (v := xs 2) C hX hbl hbA dL_law_726 (ti_in (show (2 : Int32).toInt = 2 by decide) (by decide) (by decide)) rfl ?_
  refine v_aload_n C 0 dL_law_727 rfl rfl ?_
  refine v_iload_n C 3 dL_law_728 rfl rfl ?_
  refine v_iconst (v := 3) C dL_law_729 (by decide) ?_
  refine v_iadd C dL_law_730 ?_
  refine v_eq (y := 3) (by decide) ?_
  refine v_sld (v := xs 3) C hX hbl hbA dL_law_731 (ti_in (show (3 : Int32).toInt = 3 by decide) (by decide) (by decide)) rfl ?_
  refine v_cVi C dL_law_732 lL_81 mX8_moment 0 (by decide) h0 (by decide) rfl (e_moment l G 98 ad E (by decide) h0 h6 hz (xs 1) (xs 2) (xs 3)) ⟨by decide, by decide⟩ rfl (Nat.le_of_ble_eq_true rfl) ⟨by decide, by decide⟩ (fun r1 E2 hq3 => ?_)
  have gg := hq3
  have g1 := gg.1
  have hM1 : FreshM G ad E2 := hM.keep (fun _ _ => rfl) (fun j _ h => gg.2 j h)
  refine v_aload_n C 2 dL_law_735 rfl rfl ?_
  refine v_aload_n C 0 dL_law_736 rfl rfl ?_
  refine v_iload_n C 3 dL_law_737 rfl rfl ?_
  refine v_iconst (v := 1) C dL_law_738 (by decide) ?_
  refine v_iadd C dL_law_739 ?_
  refine v_eq (y := 1) (by decide) ?_
  refine v_sld (v := xs 1) C hX hbl hbA dL_law_740 (ti_in (show (1 : Int32).toInt = 1 by decide) (by decide) (by decide)) rfl ?_
  refine v_aload_n C 0 dL_law_741 rfl rfl ?_
  refine v_iload_n C 3 dL_law_742 rfl rfl ?_
  refine v_iconst (v := 2) C dL_law_743 (by decide) ?_
  refine v_iadd C dL_law_744 ?_
  refine v_eq (y := 2) (by decide) ?_
  refine v_sld (v := xs 2) C hX hbl hbA dL_law_745 (ti_in (show (2 : Int32).toInt = 2 by decide) (by decide) (by decide)) rfl ?_
  refine v_aload_n C 0 dL_law_746 rfl rfl ?_
  refine v_iload_n C 3 dL_law_747 rfl rfl ?_
  refine v_iconst (v := 3) C dL_law_748 (by decide) ?_
  refine v_iadd C dL_law_749 ?_
  refine v_eq (y := 3) (by decide) ?_
  refine v_sld (v := xs 3) C hX hbl hbA dL_law_750 (ti_in (show (3 : Int32).toInt = 3 by decide) (by decide) (by decide)) rfl ?_
  refine v_cVi C dL_law_751 lL_84 mX9_moment 68 (by decide) hM1.1 (by decide) rfl (m_moment l G 98 ad E2 (by decide) hM1 (xs 1) (xs 2) (xs 3)) ⟨by decide, by decide⟩ rfl (Nat.le_of_ble_eq_true rfl) ⟨by decide, by decide⟩ (fun r4 E5 hq6 => ?_)
  have geq : r1.toInt = r4.toInt := g1.trans (Eq.symm hq6)
  refine b_icmp_eq C 1288 dL_law_754 (by decide) (rfl : Int32.toInt r1 = _) (rfl : Int32.toInt r4 = _) (fun c7 => ?_) (fun c7 => absurd geq c7)
  refine v_sub (lv' := [(0, .ref b), (3, .int 0)]) [0, 3] rfl ?_
  exact lw_tail C hX hbl hbA hA hlr (by decide) (by decide)
set_option maxRecDepth 20000 in
theorem lw_k17 {X : Mx} {l : Launch} {G : Gl} {A : Nat → Prop} (C : Cx X l G A "OddHoursLaw" code 4 ret room_1) {b : Nat} {xs : Nat → Int32} (hX : va_X b 6 xs X.s X.s.heap) (hbl : b < X.s.heap.size) (hbA : ¬ A b) (hA : ∀ q, A q → X.s.heap.size ≤ q) (hlr : X.args = #[Value.ref b]) {ad : Nat → Nat} {E : Nat → va_E} (h8 : Fresh8 G ad E) (hM : FreshM G ad E) : V X G A 4 (lw_Z X.below #[Value.ref b] X.s) 98 ad 1000 400000 E 759 [(0, .ref b), (1, .ref (ad 0)), (2, .ref (ad 68)), (3, .int 0)] [] := by
  obtain ⟨h0, ⟨ms1, ld1, ys1, h1, h2, h3, h4, h5, hcP, hcF⟩, h6, h7, h8a, hPf, h45, h46, h47, h48, h49, h50, h51, hq52, hq58, h64, h65, h66, h67⟩ := h8
  have hz : (ip0 1).toInt = 0 := by decide
  have hPr : ∀ i, i < 6 → E (9 + 6 * i) = ob 5 (rP ad (9 + 6 * i)) ip0 := fun i hi => (hPf i hi).1
  refine v_aload_n C 1 dL_law_759 rfl rfl ?_
  refine v_aload_n C 0 dL_law_760 rfl rfl ?_
  refine v_iload_n C 3 dL_law_761 rfl rfl ?_
  refine v_iconst (v := 1) C dL_law_762 (by decide) ?_
  refine v_iadd C dL_law_763 ?_
  refine v_eq (y := 1) (by decide) ?_
  refine v_sld (v := xs 1) C hX hbl hbA dL_law_764 (ti_in (show (1 : Int32).toInt = 1 by decide) (by decide) (by decide)) rfl ?_
  refine v_cVi C dL_law_765 lL_85 mX8_clear 0 (by decide) h0 (by decide) rfl (e_clear l G 98 ad E (by decide) h0 h6 hz h8a hfp8 hPr (fun i hi => (hPf i hi).w) (by decide) (xs 1)) ⟨by decide, by decide⟩ rfl (Nat.le_of_ble_eq_true rfl) ⟨by decide, by decide⟩ (fun r1 E2 hq3 => ?_)
  have gg := hq3
  have g1 := gg.1
  have hM1 : FreshM G ad E2 := hM.keep (fun _ _ => rfl) (fun j _ h => gg.2 j h)
  refine v_aload_n C 2 dL_law_768 rfl rfl ?_
  refine v_aload_n C 0 dL_law_769 rfl rfl ?_
  refine v_iload_n C 3 dL_law_770 rfl rfl ?_
  refine v_iconst (v := 1) C dL_law_771 (by decide) ?_
  refine v_iadd C dL_law_772 ?_
  refine v_eq (y := 1) (by decide) ?_
  refine v_sld (v := xs 1) C hX hbl hbA dL_law_773 (ti_in (show (1 : Int32).toInt = 1 by decide) (by decide) (by decide)) rfl ?_
  refine v_cVi C dL_law_774 lL_88 mX9_clear 68 (by decide) hM1.1 (by decide) rfl (m_clear l G 98 ad E2 (by decide) hM1 (xs 1)) ⟨by decide, by decide⟩ rfl (Nat.le_of_ble_eq_true rfl) ⟨by decide, by decide⟩ (fun r4 E5 hq6 => ?_)
  have geq : r1.toInt = r4.toInt := g1.trans (Eq.symm hq6)
  refine b_icmp_eq C 1288 dL_law_777 (by decide) (rfl : Int32.toInt r1 = _) (rfl : Int32.toInt r4 = _) (fun c7 => ?_) (fun c7 => absurd geq c7)
  refine v_sub (lv' := [(0, .ref b), (3, .int 0)]) [0, 3] rfl ?_
  exact lw_tail C hX hbl hbA hA hlr (by decide) (by decide)
set_option maxRecDepth 20000 in
theorem lw_k18 {X : Mx} {l : Launch} {G : Gl} {A : Nat → Prop} (C : Cx X l G A "OddHoursLaw" code 4 ret room_1) {b : Nat} {xs : Nat → Int32} (hX : va_X b 6 xs X.s X.s.heap) (hbl : b < X.s.heap.size) (hbA : ¬ A b) (hA : ∀ q, A q → X.s.heap.size ≤ q) (hlr : X.args = #[Value.ref b]) {ad : Nat → Nat} {E : Nat → va_E} (h8 : Fresh8 G ad E) (hM : FreshM G ad E) : V X G A 4 (lw_Z X.below #[Value.ref b] X.s) 98 ad 1000 400000 E 782 [(0, .ref b), (1, .ref (ad 0)), (2, .ref (ad 68)), (3, .int 0)] [] := by
  obtain ⟨h0, ⟨ms1, ld1, ys1, h1, h2, h3, h4, h5, hcP, hcF⟩, h6, h7, h8a, hPf, h45, h46, h47, h48, h49, h50, h51, hq52, hq58, h64, h65, h66, h67⟩ := h8
  have hz : (ip0 1).toInt = 0 := by decide
  have hPr : ∀ i, i < 6 → E (9 + 6 * i) = ob 5 (rP ad (9 + 6 * i)) ip0 := fun i hi => (hPf i hi).1
  refine v_aload_n C 1 dL_law_782 rfl rfl ?_
  refine v_aload_n C 0 dL_law_783 rfl rfl ?_
  refine v_iload_n C 3 dL_law_784 rfl rfl ?_
  refine v_iconst (v := 1) C dL_law_785 (by decide) ?_
  refine v_iadd C dL_law_786 ?_
  refine v_eq (y := 1) (by decide) ?_
  refine v_sld (v := xs 1) C hX hbl hbA dL_law_787 (ti_in (show (1 : Int32).toInt = 1 by decide) (by decide) (by decide)) rfl ?_
  refine v_aload_n C 0 dL_law_788 rfl rfl ?_
  refine v_iload_n C 3 dL_law_789 rfl rfl ?_
  refine v_iconst (v := 2) C dL_law_790 (by decide) ?_
  refine v_iadd C dL_law_791 ?_
  refine v_eq (y := 2) (by decide) ?_
  refine v_sld (v := xs 2) C hX hbl hbA dL_law_792 (ti_in (show (2 : Int32).toInt = 2 by decide) (by decide) (by decide)) rfl ?_
  refine v_aload_n C 0 dL_law_793 rfl rfl ?_
  refine v_iload_n C 3 dL_law_794 rfl rfl ?_
  refine v_iconst (v := 3) C dL_law_795 (by decide) ?_
  refine v_iadd C dL_law_796 ?_
  refine v_eq (y := 3) (by decide) ?_
  refine v_sld (v := xs 3) C hX hbl hbA dL_law_797 (ti_in (show (3 : Int32).toInt = 3 by decide) (by decide) (by decide)) rfl ?_
  refine v_aload_n C 0 dL_law_798 rfl rfl ?_
  refine v_iload_n C 3 dL_law_799 rfl rfl ?_
  refine v_iconst (v := 4) C dL_law_800 (by decide) ?_
  refine v_iadd C dL_law_801 ?_
  refine v_eq (y := 4) (by decide) ?_
  refine v_sld (v := xs 4) C hX hbl hbA dL_law_802 (ti_in (show (4 : Int32).toInt = 4 by decide) (by decide) (by decide)) rfl ?_
  refine v_cVi C dL_law_803 lL_89 mX8_line 0 (by decide) h0 (by decide) rfl (e_line l G 98 ad E (by decide) h0 h6 hz h8a hfp8 hPr (fun i hi => (hPf i hi).w) (by decide) (xs 1) (xs 2) (xs 3) (xs 4)) ⟨by decide, by decide⟩ rfl (Nat.le_of_ble_eq_true rfl) ⟨by decide, by decide⟩ (fun r1 E2 hq3 => ?_)
  have gg := hq3
  have g1 := gg.1
  have hM1 : FreshM G ad E2 := hM.keep (fun _ _ => rfl) (fun j _ h => gg.2 j h)
  refine v_aload_n C 2 dL_law_806 rfl rfl ?_
  refine v_aload_n C 0 dL_law_807 rfl rfl ?_
  refine v_iload_n C 3 dL_law_808 rfl rfl ?_
  refine v_iconst (v := 1) C dL_law_809 (by decide) ?_
  refine v_iadd C dL_law_810 ?_
  refine v_eq (y := 1) (by decide) ?_
  refine v_sld (v := xs 1) C hX hbl hbA dL_law_811 (ti_in (show (1 : Int32).toInt = 1 by decide) (by decide) (by decide)) rfl ?_
  refine v_aload_n C 0 dL_law_812 rfl rfl ?_
  refine v_iload_n C 3 dL_law_813 rfl rfl ?_
  refine v_iconst (v := 2) C dL_law_814 (by decide) ?_
  refine v_iadd C dL_law_815 ?_
  refine v_eq (y := 2) (by decide) ?_
  refine v_sld (v := xs 2) C hX hbl hbA dL_law_816 (ti_in (show (2 : Int32).toInt = 2 by decide) (by decide) (by decide)) rfl ?_
  refine v_aload_n C 0 dL_law_817 rfl rfl ?_
  refine v_iload_n C 3 dL_law_818 rfl rfl ?_
  refine v_iconst (v := 3) C dL_law_819 (by decide) ?_
  refine v_iadd C dL_law_820 ?_
  refine v_eq (y := 3) (by decide) ?_
  refine v_sld (v := xs 3) C hX hbl hbA dL_law_821 (ti_in (show (3 : Int32).toInt = 3 by decide) (by decide) (by decide)) rfl ?_
  refine v_aload_n C 0 dL_law_822 rfl rfl ?_
  refine v_iload_n C 3 dL_law_823 rfl rfl ?_
  refine v_iconst (v := 4) C dL_law_824 (by decide) ?_
  refine v_iadd C dL_law_825 ?_
  refine v_eq (y := 4) (by decide) ?_
  refine v_sld (v := xs 4) C hX hbl hbA dL_law_826 (ti_in (show (4 : Int32).toInt = 4 by decide) (by decide) (by decide)) rfl ?_
  refine v_cVi C dL_law_827 lL_93 mX9_line 68 (by decide) hM1.1 (by decide) rfl (m_line l G 98 ad E2 (by decide) hM1 (xs 1) (xs 2) (xs 3) (xs 4)) ⟨by decide, by decide⟩ rfl (Nat.le_of_ble_eq_true rfl) ⟨by decide, by decide⟩ (fun r4 E5 hq6 => ?_)
  have geq : r1.toInt = r4.toInt := g1.trans (Eq.symm hq6)
  refine b_icmp_eq C 1288 dL_law_830 (by decide) (rfl : Int32.toInt r1 = _) (rfl : Int32.toInt r4 = _) (fun c7 => ?_) (fun c7 => absurd geq c7)
  refine v_sub (lv' := [(0, .ref b), (3, .int 0)]) [0, 3] rfl ?_
  exact lw_tail C hX hbl hbA hA hlr (by decide) (by decide)
set_option maxRecDepth 20000 in
theorem lw_k19 {X : Mx} {l : Launch} {G : Gl} {A : Nat → Prop} (C : Cx X l G A "OddHoursLaw" code 4 ret room_1) {b : Nat} {xs : Nat → Int32} (hX : va_X b 6 xs X.s X.s.heap) (hbl : b < X.s.heap.size) (hbA : ¬ A b) (hA : ∀ q, A q → X.s.heap.size ≤ q) (hlr : X.args = #[Value.ref b]) {ad : Nat → Nat} {E : Nat → va_E} (h8 : Fresh8 G ad E) (hM : FreshM G ad E) : V X G A 4 (lw_Z X.below #[Value.ref b] X.s) 98 ad 1000 400000 E 835 [(0, .ref b), (1, .ref (ad 0)), (2, .ref (ad 68)), (3, .int 0)] [] := by
  obtain ⟨h0, ⟨ms1, ld1, ys1, h1, h2, h3, h4, h5, hcP, hcF⟩, h6, h7, h8a, hPf, h45, h46, h47, h48, h49, h50, h51, hq52, hq58, h64, h65, h66, h67⟩ := h8
  have hz : (ip0 1).toInt = 0 := by decide
  have hPr : ∀ i, i < 6 → E (9 + 6 * i) = ob 5 (rP ad (9 + 6 * i)) ip0 := fun i hi => (hPf i hi).1
  refine v_aload_n C 1 dL_law_835 rfl rfl ?_
  refine v_aload_n C 0 dL_law_836 rfl rfl ?_
  refine v_iload_n C 3 dL_law_837 rfl rfl ?_
  refine v_iconst (v := 1) C dL_law_838 (by decide) ?_
  refine v_iadd C dL_law_839 ?_
  refine v_eq (y := 1) (by decide) ?_
  refine v_sld (v := xs 1) C hX hbl hbA dL_law_840 (ti_in (show (1 : Int32).toInt = 1 by decide) (by decide) (by decide)) rfl ?_
  refine v_cVi C dL_law_841 lL_94 mX8_mix 0 (by decide) h0 (by decide) rfl (e_mix l G 98 ad E (by decide) h0 h6 hz h8a hfp8 hPr (xs 1)) ⟨by decide, by decide⟩ rfl (Nat.le_of_ble_eq_true rfl) ⟨by decide, by decide⟩ (fun r1 E2 hq3 => ?_)
  have gg := hq3
  have g1 := gg.1
  have hM1 : FreshM G ad E2 := hM.keep (fun _ _ => rfl) (fun j _ h => gg.2 j h)
  refine v_aload_n C 2 dL_law_844 rfl rfl ?_
  refine v_aload_n C 0 dL_law_845 rfl rfl ?_
  refine v_iload_n C 3 dL_law_846 rfl rfl ?_
  refine v_iconst (v := 1) C dL_law_847 (by decide) ?_
  refine v_iadd C dL_law_848 ?_
  refine v_eq (y := 1) (by decide) ?_
  refine v_sld (v := xs 1) C hX hbl hbA dL_law_849 (ti_in (show (1 : Int32).toInt = 1 by decide) (by decide) (by decide)) rfl ?_
  refine v_cVi C dL_law_850 lL_97 mX9_mix 68 (by decide) hM1.1 (by decide) rfl (m_mix l G 98 ad E2 (by decide) hM1 (xs 1)) ⟨by decide, by decide⟩ rfl (Nat.le_of_ble_eq_true rfl) ⟨by decide, by decide⟩ (fun r4 E5 hq6 => ?_)
  have geq : r1.toInt = r4.toInt := g1.trans (Eq.symm hq6)
  refine b_icmp_eq C 1288 dL_law_853 (by decide) (rfl : Int32.toInt r1 = _) (rfl : Int32.toInt r4 = _) (fun c7 => ?_) (fun c7 => absurd geq c7)
  refine v_sub (lv' := [(0, .ref b), (3, .int 0)]) [0, 3] rfl ?_
  exact lw_tail C hX hbl hbA hA hlr (by decide) (by decide)
set_option maxRecDepth 20000 in
theorem lw_k20 {X : Mx} {l : Launch} {G : Gl} {A : Nat → Prop} (C : Cx X l G A "OddHoursLaw" code 4 ret room_1) {b : Nat} {xs : Nat → Int32} (hX : va_X b 6 xs X.s X.s.heap) (hbl : b < X.s.heap.size) (hbA : ¬ A b) (hA : ∀ q, A q → X.s.heap.size ≤ q) (hlr : X.args = #[Value.ref b]) {ad : Nat → Nat} {E : Nat → va_E} (h8 : Fresh8 G ad E) (hM : FreshM G ad E) : V X G A 4 (lw_Z X.below #[Value.ref b] X.s) 98 ad 1000 400000 E 858 [(0, .ref b), (1, .ref (ad 0)), (2, .ref (ad 68)), (3, .int 0)] [] := by
  obtain ⟨h0, ⟨ms1, ld1, ys1, h1, h2, h3, h4, h5, hcP, hcF⟩, h6, h7, h8a, hPf, h45, h46, h47, h48, h49, h50, h51, hq52, hq58, h64, h65, h66, h67⟩ := h8
  have hz : (ip0 1).toInt = 0 := by decide
  have hPr : ∀ i, i < 6 → E (9 + 6 * i) = ob 5 (rP ad (9 + 6 * i)) ip0 := fun i hi => (hPf i hi).1
  refine v_aload_n C 1 dL_law_858 rfl rfl ?_
  refine v_aload_n C 0 dL_law_859 rfl rfl ?_
  refine v_iload_n C 3 dL_law_860 rfl rfl ?_
  refine v_iconst (v := 1) C dL_law_861 (by decide) ?_
  refine v_iadd C dL_law_862 ?_
  refine v_eq (y := 1) (by decide) ?_
  refine v_sld (v := xs 1) C hX hbl hbA dL_law_863 (ti_in (show (1 : Int32).toInt = 1 by decide) (by decide) (by decide)) rfl ?_
  refine v_cVi C dL_law_864 lL_98 mX8_kind 0 (by decide) h0 (by decide) rfl (e_kind l G 98 ad E (by decide) h0 h6 hz h8a hfp8 hPr (xs 1)) ⟨by decide, by decide⟩ rfl (Nat.le_of_ble_eq_true rfl) ⟨by decide, by decide⟩ (fun r1 E2 hq3 => ?_)
  have gg := hq3
  have g1 := gg.1
  have hM1 : FreshM G ad E2 := hM.keep (fun _ _ => rfl) (fun j _ h => gg.2 j h)
  refine v_aload_n C 2 dL_law_867 rfl rfl ?_
  refine v_aload_n C 0 dL_law_868 rfl rfl ?_
  refine v_iload_n C 3 dL_law_869 rfl rfl ?_
  refine v_iconst (v := 1) C dL_law_870 (by decide) ?_
  refine v_iadd C dL_law_871 ?_
  refine v_eq (y := 1) (by decide) ?_
  refine v_sld (v := xs 1) C hX hbl hbA dL_law_872 (ti_in (show (1 : Int32).toInt = 1 by decide) (by decide) (by decide)) rfl ?_
  refine v_cVi C dL_law_873 lL_101 mX9_kind 68 (by decide) hM1.1 (by decide) rfl (m_kind l G 98 ad E2 (by decide) hM1 (xs 1)) ⟨by decide, by decide⟩ rfl (Nat.le_of_ble_eq_true rfl) ⟨by decide, by decide⟩ (fun r4 E5 hq6 => ?_)
  have geq : r1.toInt = r4.toInt := g1.trans (Eq.symm hq6)
  refine b_icmp_eq C 1288 dL_law_876 (by decide) (rfl : Int32.toInt r1 = _) (rfl : Int32.toInt r4 = _) (fun c7 => ?_) (fun c7 => absurd geq c7)
  refine v_sub (lv' := [(0, .ref b), (3, .int 0)]) [0, 3] rfl ?_
  exact lw_tail C hX hbl hbA hA hlr (by decide) (by decide)
set_option maxRecDepth 20000 in
theorem lw_k21 {X : Mx} {l : Launch} {G : Gl} {A : Nat → Prop} (C : Cx X l G A "OddHoursLaw" code 4 ret room_1) {b : Nat} {xs : Nat → Int32} (hX : va_X b 6 xs X.s X.s.heap) (hbl : b < X.s.heap.size) (hbA : ¬ A b) (hA : ∀ q, A q → X.s.heap.size ≤ q) (hlr : X.args = #[Value.ref b]) {ad : Nat → Nat} {E : Nat → va_E} (h8 : Fresh8 G ad E) (hM : FreshM G ad E) : V X G A 4 (lw_Z X.below #[Value.ref b] X.s) 98 ad 1000 400000 E 881 [(0, .ref b), (1, .ref (ad 0)), (2, .ref (ad 68)), (3, .int 0)] [] := by
  obtain ⟨h0, ⟨ms1, ld1, ys1, h1, h2, h3, h4, h5, hcP, hcF⟩, h6, h7, h8a, hPf, h45, h46, h47, h48, h49, h50, h51, hq52, hq58, h64, h65, h66, h67⟩ := h8
  have hz : (ip0 1).toInt = 0 := by decide
  have hPr : ∀ i, i < 6 → E (9 + 6 * i) = ob 5 (rP ad (9 + 6 * i)) ip0 := fun i hi => (hPf i hi).1
  refine v_aload_n C 1 dL_law_881 rfl rfl ?_
  refine v_aload_n C 0 dL_law_882 rfl rfl ?_
  refine v_iload_n C 3 dL_law_883 rfl rfl ?_
  refine v_iconst (v := 1) C dL_law_884 (by decide) ?_
  refine v_iadd C dL_law_885 ?_
  refine v_eq (y := 1) (by decide) ?_
  refine v_sld (v := xs 1) C hX hbl hbA dL_law_886 (ti_in (show (1 : Int32).toInt = 1 by decide) (by decide) (by decide)) rfl ?_
  refine v_aload_n C 0 dL_law_887 rfl rfl ?_
  refine v_iload_n C 3 dL_law_888 rfl rfl ?_
  refine v_iconst (v := 2) C dL_law_889 (by decide) ?_
  refine v_iadd C dL_law_890 ?_
  refine v_eq (y := 2) (by decide) ?_
  refine v_sld (v := xs 2) C hX hbl hbA dL_law_891 (ti_in (show (2 : Int32).toInt = 2 by decide) (by decide) (by decide)) rfl ?_
  refine v_cVi C dL_law_892 lL_102 mX8_run 0 (by decide) h0 (by decide) rfl (e_run l G 98 ad E (by decide) h0 h6 hz h8a hfp8 hPr (xs 1) (xs 2)) ⟨by decide, by decide⟩ rfl (Nat.le_of_ble_eq_true rfl) ⟨by decide, by decide⟩ (fun r1 E2 hq3 => ?_)
  have gg := hq3
  have g1 := gg.1
  have hM1 : FreshM G ad E2 := hM.keep (fun _ _ => rfl) (fun j _ h => gg.2 j h)
  refine v_aload_n C 2 dL_law_895 rfl rfl ?_
  refine v_aload_n C 0 dL_law_896 rfl rfl ?_
  refine v_iload_n C 3 dL_law_897 rfl rfl ?_
  refine v_iconst (v := 1) C dL_law_898 (by decide) ?_
  refine v_iadd C dL_law_899 ?_
  refine v_eq (y := 1) (by decide) ?_
  refine v_sld (v := xs 1) C hX hbl hbA dL_law_900 (ti_in (show (1 : Int32).toInt = 1 by decide) (by decide) (by decide)) rfl ?_
  refine v_aload_n C 0 dL_law_901 rfl rfl ?_
  refine v_iload_n C 3 dL_law_902 rfl rfl ?_
  refine v_iconst (v := 2) C dL_law_903 (by decide) ?_
  refine v_iadd C dL_law_904 ?_
  refine v_eq (y := 2) (by decide) ?_
  refine v_sld (v := xs 2) C hX hbl hbA dL_law_905 (ti_in (show (2 : Int32).toInt = 2 by decide) (by decide) (by decide)) rfl ?_
  refine v_cVi C dL_law_906 lL_105 mX9_run 68 (by decide) hM1.1 (by decide) rfl (m_run l G 98 ad E2 (by decide) hM1 (xs 1) (xs 2)) ⟨by decide, by decide⟩ rfl (Nat.le_of_ble_eq_true rfl) ⟨by decide, by decide⟩ (fun r4 E5 hq6 => ?_)
  have geq : r1.toInt = r4.toInt := g1.trans (Eq.symm hq6)
  refine b_icmp_eq C 1288 dL_law_909 (by decide) (rfl : Int32.toInt r1 = _) (rfl : Int32.toInt r4 = _) (fun c7 => ?_) (fun c7 => absurd geq c7)
  refine v_sub (lv' := [(0, .ref b), (3, .int 0)]) [0, 3] rfl ?_
  exact lw_tail C hX hbl hbA hA hlr (by decide) (by decide)
set_option maxRecDepth 20000 in
theorem lw_k22 {X : Mx} {l : Launch} {G : Gl} {A : Nat → Prop} (C : Cx X l G A "OddHoursLaw" code 4 ret room_1) {b : Nat} {xs : Nat → Int32} (hX : va_X b 6 xs X.s X.s.heap) (hbl : b < X.s.heap.size) (hbA : ¬ A b) (hA : ∀ q, A q → X.s.heap.size ≤ q) (hlr : X.args = #[Value.ref b]) {ad : Nat → Nat} {E : Nat → va_E} (h8 : Fresh8 G ad E) (hM : FreshM G ad E) : V X G A 4 (lw_Z X.below #[Value.ref b] X.s) 98 ad 1000 400000 E 914 [(0, .ref b), (1, .ref (ad 0)), (2, .ref (ad 68)), (3, .int 0)] [] := by
  obtain ⟨h0, ⟨ms1, ld1, ys1, h1, h2, h3, h4, h5, hcP, hcF⟩, h6, h7, h8a, hPf, h45, h46, h47, h48, h49, h50, h51, hq52, hq58, h64, h65, h66, h67⟩ := h8
  have hz : (ip0 1).toInt = 0 := by decide
  have hPr : ∀ i, i < 6 → E (9 + 6 * i) = ob 5 (rP ad (9 + 6 * i)) ip0 := fun i hi => (hPf i hi).1
  refine v_aload_n C 1 dL_law_914 rfl rfl ?_
  refine v_aload_n C 0 dL_law_915 rfl rfl ?_
  refine v_iload_n C 3 dL_law_916 rfl rfl ?_
  refine v_iconst (v := 1) C dL_law_917 (by decide) ?_
  refine v_iadd C dL_law_918 ?_
  refine v_eq (y := 1) (by decide) ?_
  refine v_sld (v := xs 1) C hX hbl hbA dL_law_919 (ti_in (show (1 : Int32).toInt = 1 by decide) (by decide) (by decide)) rfl ?_
  refine v_aload_n C 0 dL_law_920 rfl rfl ?_
  refine v_iload_n C 3 dL_law_921 rfl rfl ?_
  refine v_iconst (v := 2) C dL_law_922 (by decide) ?_
  refine v_iadd C dL_law_923 ?_
  refine v_eq (y := 2) (by decide) ?_
  refine v_sld (v := xs 2) C hX hbl hbA dL_law_924 (ti_in (show (2 : Int32).toInt = 2 by decide) (by decide) (by decide)) rfl ?_
  refine v_aload_n C 0 dL_law_925 rfl rfl ?_
  refine v_iload_n C 3 dL_law_926 rfl rfl ?_
  refine v_iconst (v := 3) C dL_law_927 (by decide) ?_
  refine v_iadd C dL_law_928 ?_
  refine v_eq (y := 3) (by decide) ?_
  refine v_sld (v := xs 3) C hX hbl hbA dL_law_929 (ti_in (show (3 : Int32).toInt = 3 by decide) (by decide) (by decide)) rfl ?_
  refine v_aload_n C 0 dL_law_930 rfl rfl ?_
  refine v_iload_n C 3 dL_law_931 rfl rfl ?_
  refine v_iconst (v := 4) C dL_law_932 (by decide) ?_
  refine v_iadd C dL_law_933 ?_
  refine v_eq (y := 4) (by decide) ?_
  refine v_sld (v := xs 4) C hX hbl hbA dL_law_934 (ti_in (show (4 : Int32).toInt = 4 by decide) (by decide) (by decide)) rfl ?_
  refine v_cVi C dL_law_935 lL_106 mX8_keeps 0 (by decide) h0 (by decide) rfl (e_keeps l G 98 ad E (by decide) h0 h6 hz h8a hfp8 hPr (xs 1) (xs 2) (xs 3) (xs 4)) ⟨by decide, by decide⟩ rfl (Nat.le_of_ble_eq_true rfl) ⟨by decide, by decide⟩ (fun r1 E2 hq3 => ?_)
  have gg := hq3
  have g1 := gg.1
  have hM1 : FreshM G ad E2 := hM.keep (fun _ _ => rfl) (fun j _ h => gg.2 j h)
  refine v_aload_n C 2 dL_law_938 rfl rfl ?_
  refine v_aload_n C 0 dL_law_939 rfl rfl ?_
  refine v_iload_n C 3 dL_law_940 rfl rfl ?_
  refine v_iconst (v := 1) C dL_law_941 (by decide) ?_
  refine v_iadd C dL_law_942 ?_
  refine v_eq (y := 1) (by decide) ?_
  refine v_sld (v := xs 1) C hX hbl hbA dL_law_943 (ti_in (show (1 : Int32).toInt = 1 by decide) (by decide) (by decide)) rfl ?_
  refine v_aload_n C 0 dL_law_944 rfl rfl ?_
  refine v_iload_n C 3 dL_law_945 rfl rfl ?_
  refine v_iconst (v := 2) C dL_law_946 (by decide) ?_
  refine v_iadd C dL_law_947 ?_
  refine v_eq (y := 2) (by decide) ?_
  refine v_sld (v := xs 2) C hX hbl hbA dL_law_948 (ti_in (show (2 : Int32).toInt = 2 by decide) (by decide) (by decide)) rfl ?_
  refine v_aload_n C 0 dL_law_949 rfl rfl ?_
  refine v_iload_n C 3 dL_law_950 rfl rfl ?_
  refine v_iconst (v := 3) C dL_law_951 (by decide) ?_
  refine v_iadd C dL_law_952 ?_
  refine v_eq (y := 3) (by decide) ?_
  refine v_sld (v := xs 3) C hX hbl hbA dL_law_953 (ti_in (show (3 : Int32).toInt = 3 by decide) (by decide) (by decide)) rfl ?_
  refine v_aload_n C 0 dL_law_954 rfl rfl ?_
  refine v_iload_n C 3 dL_law_955 rfl rfl ?_
  refine v_iconst (v := 4) C dL_law_956 (by decide) ?_
  refine v_iadd C dL_law_957 ?_
  refine v_eq (y := 4) (by decide) ?_
  refine v_sld (v := xs 4) C hX hbl hbA dL_law_958 (ti_in (show (4 : Int32).toInt = 4 by decide) (by decide) (by decide)) rfl ?_
  refine v_cVi C dL_law_959 lL_109 mX9_keeps 68 (by decide) hM1.1 (by decide) rfl (m_keeps l G 98 ad E2 (by decide) hM1 (xs 1) (xs 2) (xs 3) (xs 4)) ⟨by decide, by decide⟩ rfl (Nat.le_of_ble_eq_true rfl) ⟨by decide, by decide⟩ (fun r4 E5 hq6 => ?_)
  have geq : r1.toInt = r4.toInt := g1.trans (Eq.symm hq6)
  refine b_icmp_eq C 1288 dL_law_962 (by decide) (rfl : Int32.toInt r1 = _) (rfl : Int32.toInt r4 = _) (fun c7 => ?_) (fun c7 => absurd geq c7)
  refine v_sub (lv' := [(0, .ref b), (3, .int 0)]) [0, 3] rfl ?_
  exact lw_tail C hX hbl hbA hA hlr (by decide) (by decide)
set_option maxRecDepth 20000 in
theorem lw_k23 {X : Mx} {l : Launch} {G : Gl} {A : Nat → Prop} (C : Cx X l G A "OddHoursLaw" code 4 ret room_1) {b : Nat} {xs : Nat → Int32} (hX : va_X b 6 xs X.s X.s.heap) (hbl : b < X.s.heap.size) (hbA : ¬ A b) (hA : ∀ q, A q → X.s.heap.size ≤ q) (hlr : X.args = #[Value.ref b]) {ad : Nat → Nat} {E : Nat → va_E} (h8 : Fresh8 G ad E) (hM : FreshM G ad E) : V X G A 4 (lw_Z X.below #[Value.ref b] X.s) 98 ad 1000 400000 E 967 [(0, .ref b), (1, .ref (ad 0)), (2, .ref (ad 68)), (3, .int 0)] [] := by
  obtain ⟨h0, ⟨ms1, ld1, ys1, h1, h2, h3, h4, h5, hcP, hcF⟩, h6, h7, h8a, hPf, h45, h46, h47, h48, h49, h50, h51, hq52, hq58, h64, h65, h66, h67⟩ := h8
  have hz : (ip0 1).toInt = 0 := by decide
  have hPr : ∀ i, i < 6 → E (9 + 6 * i) = ob 5 (rP ad (9 + 6 * i)) ip0 := fun i hi => (hPf i hi).1
  refine v_aload_n C 1 dL_law_967 rfl rfl ?_
  refine v_aload_n C 0 dL_law_968 rfl rfl ?_
  refine v_iload_n C 3 dL_law_969 rfl rfl ?_
  refine v_iconst (v := 1) C dL_law_970 (by decide) ?_
  refine v_iadd C dL_law_971 ?_
  refine v_eq (y := 1) (by decide) ?_
  refine v_sld (v := xs 1) C hX hbl hbA dL_law_972 (ti_in (show (1 : Int32).toInt = 1 by decide) (by decide) (by decide)) rfl ?_
  refine v_aload_n C 0 dL_law_973 rfl rfl ?_
  refine v_iload_n C 3 dL_law_974 rfl rfl ?_
  refine v_iconst (v := 2) C dL_law_975 (by decide) ?_
  refine v_iadd C dL_law_976 ?_
  refine v_eq (y := 2) (by decide) ?_
  refine v_sld (v := xs 2) C hX hbl hbA dL_law_977 (ti_in (show (2 : Int32).toInt = 2 by decide) (by decide) (by decide)) rfl ?_
  refine v_cVi C dL_law_978 lL_110 mX8_odds 0 (by decide) h0 (by decide) rfl (e_odds l G 98 ad E (by decide) h0 h6 hz h45 (by decide) h46 h47 h1 h2 h3 h4 h5 hcP hcF (xs 1) (xs 2)) ⟨by decide, by decide⟩ rfl (Nat.le_of_ble_eq_true rfl) ⟨by decide, by decide⟩ (fun r1 E2 hq3 => ?_)
  have gg := hq3
  have g1 := gg.1
  have hM1 : FreshM G ad E2 := hM.keep (fun _ _ => rfl) (fun j _ h => gg.2 j h)
  refine v_aload_n C 2 dL_law_981 rfl rfl ?_
  refine v_aload_n C 0 dL_law_982 rfl rfl ?_
  refine v_iload_n C 3 dL_law_983 rfl rfl ?_
  refine v_iconst (v := 1) C dL_law_984 (by decide) ?_
  refine v_iadd C dL_law_985 ?_
  refine v_eq (y := 1) (by decide) ?_
  refine v_sld (v := xs 1) C hX hbl hbA dL_law_986 (ti_in (show (1 : Int32).toInt = 1 by decide) (by decide) (by decide)) rfl ?_
  refine v_aload_n C 0 dL_law_987 rfl rfl ?_
  refine v_iload_n C 3 dL_law_988 rfl rfl ?_
  refine v_iconst (v := 2) C dL_law_989 (by decide) ?_
  refine v_iadd C dL_law_990 ?_
  refine v_eq (y := 2) (by decide) ?_
  refine v_sld (v := xs 2) C hX hbl hbA dL_law_991 (ti_in (show (2 : Int32).toInt = 2 by decide) (by decide) (by decide)) rfl ?_
  refine v_cVi C dL_law_992 lL_113 mX9_odds 68 (by decide) hM1.1 (by decide) rfl (m_odds l G 98 ad E2 (by decide) hM1 (xs 1) (xs 2)) ⟨by decide, by decide⟩ rfl (Nat.le_of_ble_eq_true rfl) ⟨by decide, by decide⟩ (fun r4 E5 hq6 => ?_)
  have geq : r1.toInt = r4.toInt := g1.trans (Eq.symm hq6)
  refine b_icmp_eq C 1288 dL_law_995 (by decide) (rfl : Int32.toInt r1 = _) (rfl : Int32.toInt r4 = _) (fun c7 => ?_) (fun c7 => absurd geq c7)
  refine v_sub (lv' := [(0, .ref b), (3, .int 0)]) [0, 3] rfl ?_
  exact lw_tail C hX hbl hbA hA hlr (by decide) (by decide)
set_option maxRecDepth 20000 in
theorem lw_k24 {X : Mx} {l : Launch} {G : Gl} {A : Nat → Prop} (C : Cx X l G A "OddHoursLaw" code 4 ret room_1) {b : Nat} {xs : Nat → Int32} (hX : va_X b 6 xs X.s X.s.heap) (hbl : b < X.s.heap.size) (hbA : ¬ A b) (hA : ∀ q, A q → X.s.heap.size ≤ q) (hlr : X.args = #[Value.ref b]) {ad : Nat → Nat} {E : Nat → va_E} (h8 : Fresh8 G ad E) (hM : FreshM G ad E) : V X G A 4 (lw_Z X.below #[Value.ref b] X.s) 98 ad 1000 400000 E 1000 [(0, .ref b), (1, .ref (ad 0)), (2, .ref (ad 68)), (3, .int 0)] [] := by
  obtain ⟨h0, ⟨ms1, ld1, ys1, h1, h2, h3, h4, h5, hcP, hcF⟩, h6, h7, h8a, hPf, h45, h46, h47, h48, h49, h50, h51, hq52, hq58, h64, h65, h66, h67⟩ := h8
  have hz : (ip0 1).toInt = 0 := by decide
  have hPr : ∀ i, i < 6 → E (9 + 6 * i) = ob 5 (rP ad (9 + 6 * i)) ip0 := fun i hi => (hPf i hi).1
  refine v_aload_n C 1 dL_law_1000 rfl rfl ?_
  refine v_aload_n C 0 dL_law_1001 rfl rfl ?_
  refine v_iload_n C 3 dL_law_1002 rfl rfl ?_
  refine v_iconst (v := 1) C dL_law_1003 (by decide) ?_
  refine v_iadd C dL_law_1004 ?_
  refine v_eq (y := 1) (by decide) ?_
  refine v_sld (v := xs 1) C hX hbl hbA dL_law_1005 (ti_in (show (1 : Int32).toInt = 1 by decide) (by decide) (by decide)) rfl ?_
  refine v_aload_n C 0 dL_law_1006 rfl rfl ?_
  refine v_iload_n C 3 dL_law_1007 rfl rfl ?_
  refine v_iconst (v := 2) C dL_law_1008 (by decide) ?_
  refine v_iadd C dL_law_1009 ?_
  refine v_eq (y := 2) (by decide) ?_
  refine v_sld (v := xs 2) C hX hbl hbA dL_law_1010 (ti_in (show (2 : Int32).toInt = 2 by decide) (by decide) (by decide)) rfl ?_
  refine v_aload_n C 0 dL_law_1011 rfl rfl ?_
  refine v_iload_n C 3 dL_law_1012 rfl rfl ?_
  refine v_iconst (v := 3) C dL_law_1013 (by decide) ?_
  refine v_iadd C dL_law_1014 ?_
  refine v_eq (y := 3) (by decide) ?_
  refine v_sld (v := xs 3) C hX hbl hbA dL_law_1015 (ti_in (show (3 : Int32).toInt = 3 by decide) (by decide) (by decide)) rfl ?_
  refine v_cVi C dL_law_1016 lL_114 mX8_odd 0 (by decide) h0 (by decide) rfl (e_odd l G 98 ad E (by decide) h0 h6 hz h45 (by decide) h46 h47 h1 h2 h3 h4 h5 hcP hcF (xs 1) (xs 2) (xs 3)) ⟨by decide, by decide⟩ rfl (Nat.le_of_ble_eq_true rfl) ⟨by decide, by decide⟩ (fun r1 E2 hq3 => ?_)
  have gg := hq3
  have g1 := gg.1
  have hM1 : FreshM G ad E2 := hM.keep (fun _ _ => rfl) (fun j _ h => gg.2 j h)
  refine v_aload_n C 2 dL_law_1019 rfl rfl ?_
  refine v_aload_n C 0 dL_law_1020 rfl rfl ?_
  refine v_iload_n C 3 dL_law_1021 rfl rfl ?_
  refine v_iconst (v := 1) C dL_law_1022 (by decide) ?_
  refine v_iadd C dL_law_1023 ?_
  refine v_eq (y := 1) (by decide) ?_
  refine v_sld (v := xs 1) C hX hbl hbA dL_law_1024 (ti_in (show (1 : Int32).toInt = 1 by decide) (by decide) (by decide)) rfl ?_
  refine v_aload_n C 0 dL_law_1025 rfl rfl ?_
  refine v_iload_n C 3 dL_law_1026 rfl rfl ?_
  refine v_iconst (v := 2) C dL_law_1027 (by decide) ?_
  refine v_iadd C dL_law_1028 ?_
  refine v_eq (y := 2) (by decide) ?_
  refine v_sld (v := xs 2) C hX hbl hbA dL_law_1029 (ti_in (show (2 : Int32).toInt = 2 by decide) (by decide) (by decide)) rfl ?_
  refine v_aload_n C 0 dL_law_1030 rfl rfl ?_
  refine v_iload_n C 3 dL_law_1031 rfl rfl ?_
  refine v_iconst (v := 3) C dL_law_1032 (by decide) ?_
  refine v_iadd C dL_law_1033 ?_
  refine v_eq (y := 3) (by decide) ?_
  refine v_sld (v := xs 3) C hX hbl hbA dL_law_1034 (ti_in (show (3 : Int32).toInt = 3 by decide) (by decide) (by decide)) rfl ?_
  refine v_cVi C dL_law_1035 lL_117 mX9_odd 68 (by decide) hM1.1 (by decide) rfl (m_odd l G 98 ad E2 (by decide) hM1 (xs 1) (xs 2) (xs 3)) ⟨by decide, by decide⟩ rfl (Nat.le_of_ble_eq_true rfl) ⟨by decide, by decide⟩ (fun r4 E5 hq6 => ?_)
  have geq : r1.toInt = r4.toInt := g1.trans (Eq.symm hq6)
  refine b_icmp_eq C 1288 dL_law_1038 (by decide) (rfl : Int32.toInt r1 = _) (rfl : Int32.toInt r4 = _) (fun c7 => ?_) (fun c7 => absurd geq c7)
  refine v_sub (lv' := [(0, .ref b), (3, .int 0)]) [0, 3] rfl ?_
  exact lw_tail C hX hbl hbA hA hlr (by decide) (by decide)
set_option maxRecDepth 20000 in
theorem lw_k25 {X : Mx} {l : Launch} {G : Gl} {A : Nat → Prop} (C : Cx X l G A "OddHoursLaw" code 4 ret room_1) {b : Nat} {xs : Nat → Int32} (hX : va_X b 6 xs X.s X.s.heap) (hbl : b < X.s.heap.size) (hbA : ¬ A b) (hA : ∀ q, A q → X.s.heap.size ≤ q) (hlr : X.args = #[Value.ref b]) {ad : Nat → Nat} {E : Nat → va_E} (h8 : Fresh8 G ad E) (hM : FreshM G ad E) : V X G A 4 (lw_Z X.below #[Value.ref b] X.s) 98 ad 1000 400000 E 1043 [(0, .ref b), (1, .ref (ad 0)), (2, .ref (ad 68)), (3, .int 0)] [] := by
  obtain ⟨h0, ⟨ms1, ld1, ys1, h1, h2, h3, h4, h5, hcP, hcF⟩, h6, h7, h8a, hPf, h45, h46, h47, h48, h49, h50, h51, hq52, hq58, h64, h65, h66, h67⟩ := h8
  have hz : (ip0 1).toInt = 0 := by decide
  have hPr : ∀ i, i < 6 → E (9 + 6 * i) = ob 5 (rP ad (9 + 6 * i)) ip0 := fun i hi => (hPf i hi).1
  refine v_aload_n C 1 dL_law_1043 rfl rfl ?_
  refine v_aload_n C 0 dL_law_1044 rfl rfl ?_
  refine v_iload_n C 3 dL_law_1045 rfl rfl ?_
  refine v_iconst (v := 1) C dL_law_1046 (by decide) ?_
  refine v_iadd C dL_law_1047 ?_
  refine v_eq (y := 1) (by decide) ?_
  refine v_sld (v := xs 1) C hX hbl hbA dL_law_1048 (ti_in (show (1 : Int32).toInt = 1 by decide) (by decide) (by decide)) rfl ?_
  refine v_aload_n C 0 dL_law_1049 rfl rfl ?_
  refine v_iload_n C 3 dL_law_1050 rfl rfl ?_
  refine v_iconst (v := 2) C dL_law_1051 (by decide) ?_
  refine v_iadd C dL_law_1052 ?_
  refine v_eq (y := 2) (by decide) ?_
  refine v_sld (v := xs 2) C hX hbl hbA dL_law_1053 (ti_in (show (2 : Int32).toInt = 2 by decide) (by decide) (by decide)) rfl ?_
  refine v_aload_n C 0 dL_law_1054 rfl rfl ?_
  refine v_iload_n C 3 dL_law_1055 rfl rfl ?_
  refine v_iconst (v := 3) C dL_law_1056 (by decide) ?_
  refine v_iadd C dL_law_1057 ?_
  refine v_eq (y := 3) (by decide) ?_
  refine v_sld (v := xs 3) C hX hbl hbA dL_law_1058 (ti_in (show (3 : Int32).toInt = 3 by decide) (by decide) (by decide)) rfl ?_
  refine v_aload_n C 0 dL_law_1059 rfl rfl ?_
  refine v_iload_n C 3 dL_law_1060 rfl rfl ?_
  refine v_iconst (v := 4) C dL_law_1061 (by decide) ?_
  refine v_iadd C dL_law_1062 ?_
  refine v_eq (y := 4) (by decide) ?_
  refine v_sld (v := xs 4) C hX hbl hbA dL_law_1063 (ti_in (show (4 : Int32).toInt = 4 by decide) (by decide) (by decide)) rfl ?_
  refine v_aload_n C 0 dL_law_1064 rfl rfl ?_
  refine v_iload_n C 3 dL_law_1065 rfl rfl ?_
  refine v_iconst (v := 5) C dL_law_1066 (by decide) ?_
  refine v_iadd C dL_law_1067 ?_
  refine v_eq (y := 5) (by decide) ?_
  refine v_sld (v := xs 5) C hX hbl hbA dL_law_1068 (ti_in (show (5 : Int32).toInt = 5 by decide) (by decide) (by decide)) rfl ?_
  refine v_cVi C dL_law_1069 lL_118 mX8_least 0 (by decide) h0 (by decide) rfl (e_least l G 98 ad E (by decide) h0 h6 hz h8a hfp8 hPr (xs 1) (xs 2) (xs 3) (xs 4) (xs 5)) ⟨by decide, by decide⟩ rfl (Nat.le_of_ble_eq_true rfl) ⟨by decide, by decide⟩ (fun r1 E2 hq3 => ?_)
  have gg := hq3
  have g1 := gg.1
  have hM1 : FreshM G ad E2 := hM.keep (fun _ _ => rfl) (fun j _ h => gg.2 j h)
  refine v_aload_n C 2 dL_law_1072 rfl rfl ?_
  refine v_aload_n C 0 dL_law_1073 rfl rfl ?_
  refine v_iload_n C 3 dL_law_1074 rfl rfl ?_
  refine v_iconst (v := 1) C dL_law_1075 (by decide) ?_
  refine v_iadd C dL_law_1076 ?_
  refine v_eq (y := 1) (by decide) ?_
  refine v_sld (v := xs 1) C hX hbl hbA dL_law_1077 (ti_in (show (1 : Int32).toInt = 1 by decide) (by decide) (by decide)) rfl ?_
  refine v_aload_n C 0 dL_law_1078 rfl rfl ?_
  refine v_iload_n C 3 dL_law_1079 rfl rfl ?_
  refine v_iconst (v := 2) C dL_law_1080 (by decide) ?_
  refine v_iadd C dL_law_1081 ?_
  refine v_eq (y := 2) (by decide) ?_
  refine v_sld (v := xs 2) C hX hbl hbA dL_law_1082 (ti_in (show (2 : Int32).toInt = 2 by decide) (by decide) (by decide)) rfl ?_
  refine v_aload_n C 0 dL_law_1083 rfl rfl ?_
  refine v_iload_n C 3 dL_law_1084 rfl rfl ?_
  refine v_iconst (v := 3) C dL_law_1085 (by decide) ?_
  refine v_iadd C dL_law_1086 ?_
  refine v_eq (y := 3) (by decide) ?_
  refine v_sld (v := xs 3) C hX hbl hbA dL_law_1087 (ti_in (show (3 : Int32).toInt = 3 by decide) (by decide) (by decide)) rfl ?_
  refine v_aload_n C 0 dL_law_1088 rfl rfl ?_
  refine v_iload_n C 3 dL_law_1089 rfl rfl ?_
  refine v_iconst (v := 4) C dL_law_1090 (by decide) ?_
  refine v_iadd C dL_law_1091 ?_
  refine v_eq (y := 4) (by decide) ?_
  refine v_sld (v := xs 4) C hX hbl hbA dL_law_1092 (ti_in (show (4 : Int32).toInt = 4 by decide) (by decide) (by decide)) rfl ?_
  refine v_aload_n C 0 dL_law_1093 rfl rfl ?_
  refine v_iload_n C 3 dL_law_1094 rfl rfl ?_
  refine v_iconst (v := 5) C dL_law_1095 (by decide) ?_
  refine v_iadd C dL_law_1096 ?_
  refine v_eq (y := 5) (by decide) ?_
  refine v_sld (v := xs 5) C hX hbl hbA dL_law_1097 (ti_in (show (5 : Int32).toInt = 5 by decide) (by decide) (by decide)) rfl ?_
  refine v_cVi C dL_law_1098 lL_121 mX9_least 68 (by decide) hM1.1 (by decide) rfl (m_least l G 98 ad E2 (by decide) hM1 (xs 1) (xs 2) (xs 3) (xs 4) (xs 5)) ⟨by decide, by decide⟩ rfl (Nat.le_of_ble_eq_true rfl) ⟨by decide, by decide⟩ (fun r4 E5 hq6 => ?_)
  have geq : r1.toInt = r4.toInt := g1.trans (Eq.symm hq6)
  refine b_icmp_eq C 1288 dL_law_1101 (by decide) (rfl : Int32.toInt r1 = _) (rfl : Int32.toInt r4 = _) (fun c7 => ?_) (fun c7 => absurd geq c7)
  refine v_sub (lv' := [(0, .ref b), (3, .int 0)]) [0, 3] rfl ?_
  exact lw_tail C hX hbl hbA hA hlr (by decide) (by decide)
set_option maxRecDepth 20000 in
theorem lw_k26 {X : Mx} {l : Launch} {G : Gl} {A : Nat → Prop} (C : Cx X l G A "OddHoursLaw" code 4 ret room_1) {b : Nat} {xs : Nat → Int32} (hX : va_X b 6 xs X.s X.s.heap) (hbl : b < X.s.heap.size) (hbA : ¬ A b) (hA : ∀ q, A q → X.s.heap.size ≤ q) (hlr : X.args = #[Value.ref b]) {ad : Nat → Nat} {E : Nat → va_E} (h8 : Fresh8 G ad E) (hM : FreshM G ad E) : V X G A 4 (lw_Z X.below #[Value.ref b] X.s) 98 ad 1000 400000 E 1106 [(0, .ref b), (1, .ref (ad 0)), (2, .ref (ad 68)), (3, .int 0)] [] := by
  obtain ⟨h0, ⟨ms1, ld1, ys1, h1, h2, h3, h4, h5, hcP, hcF⟩, h6, h7, h8a, hPf, h45, h46, h47, h48, h49, h50, h51, hq52, hq58, h64, h65, h66, h67⟩ := h8
  have hz : (ip0 1).toInt = 0 := by decide
  have hPr : ∀ i, i < 6 → E (9 + 6 * i) = ob 5 (rP ad (9 + 6 * i)) ip0 := fun i hi => (hPf i hi).1
  refine v_aload_n C 1 dL_law_1106 rfl rfl ?_
  refine v_aload_n C 0 dL_law_1107 rfl rfl ?_
  refine v_iload_n C 3 dL_law_1108 rfl rfl ?_
  refine v_iconst (v := 1) C dL_law_1109 (by decide) ?_
  refine v_iadd C dL_law_1110 ?_
  refine v_eq (y := 1) (by decide) ?_
  refine v_sld (v := xs 1) C hX hbl hbA dL_law_1111 (ti_in (show (1 : Int32).toInt = 1 by decide) (by decide) (by decide)) rfl ?_
  refine v_aload_n C 0 dL_law_1112 rfl rfl ?_
  refine v_iload_n C 3 dL_law_1113 rfl rfl ?_
  refine v_iconst (v := 2) C dL_law_1114 (by decide) ?_
  refine v_iadd C dL_law_1115 ?_
  refine v_eq (y := 2) (by decide) ?_
  refine v_sld (v := xs 2) C hX hbl hbA dL_law_1116 (ti_in (show (2 : Int32).toInt = 2 by decide) (by decide) (by decide)) rfl ?_
  refine v_aload_n C 0 dL_law_1117 rfl rfl ?_
  refine v_iload_n C 3 dL_law_1118 rfl rfl ?_
  refine v_iconst (v := 3) C dL_law_1119 (by decide) ?_
  refine v_iadd C dL_law_1120 ?_
  refine v_eq (y := 3) (by decide) ?_
  refine v_sld (v := xs 3) C hX hbl hbA dL_law_1121 (ti_in (show (3 : Int32).toInt = 3 by decide) (by decide) (by decide)) rfl ?_
  refine v_aload_n C 0 dL_law_1122 rfl rfl ?_
  refine v_iload_n C 3 dL_law_1123 rfl rfl ?_
  refine v_iconst (v := 4) C dL_law_1124 (by decide) ?_
  refine v_iadd C dL_law_1125 ?_
  refine v_eq (y := 4) (by decide) ?_
  refine v_sld (v := xs 4) C hX hbl hbA dL_law_1126 (ti_in (show (4 : Int32).toInt = 4 by decide) (by decide) (by decide)) rfl ?_
  refine v_aload_n C 0 dL_law_1127 rfl rfl ?_
  refine v_iload_n C 3 dL_law_1128 rfl rfl ?_
  refine v_iconst (v := 5) C dL_law_1129 (by decide) ?_
  refine v_iadd C dL_law_1130 ?_
  refine v_eq (y := 5) (by decide) ?_
  refine v_sld (v := xs 5) C hX hbl hbA dL_law_1131 (ti_in (show (5 : Int32).toInt = 5 by decide) (by decide) (by decide)) rfl ?_
  refine v_cVi C dL_law_1132 lL_122 mX8_mend 0 (by decide) h0 (by decide) rfl (e_mend l G 98 ad E (by decide) h0 h6 hz h45 (by decide) h46 h47 h1 h2 h3 h4 h5 hcP hcF h8a hfp8 hPr (by decide) h51 h48 hq52.1 hq52.2.2.2.2.2 hq58.w (xs 1) (xs 2) (xs 3) (xs 4) (xs 5)) ⟨by decide, by decide⟩ rfl (Nat.le_of_ble_eq_true rfl) ⟨by decide, by decide⟩ (fun r1 E2 hq3 => ?_)
  have gg := hq3
  have g1 := gg.1
  have hM1 : FreshM G ad E2 := hM.keep (fun _ _ => rfl) (fun j _ h => gg.2 j h)
  refine v_aload_n C 2 dL_law_1135 rfl rfl ?_
  refine v_aload_n C 0 dL_law_1136 rfl rfl ?_
  refine v_iload_n C 3 dL_law_1137 rfl rfl ?_
  refine v_iconst (v := 1) C dL_law_1138 (by decide) ?_
  refine v_iadd C dL_law_1139 ?_
  refine v_eq (y := 1) (by decide) ?_
  refine v_sld (v := xs 1) C hX hbl hbA dL_law_1140 (ti_in (show (1 : Int32).toInt = 1 by decide) (by decide) (by decide)) rfl ?_
  refine v_aload_n C 0 dL_law_1141 rfl rfl ?_
  refine v_iload_n C 3 dL_law_1142 rfl rfl ?_
  refine v_iconst (v := 2) C dL_law_1143 (by decide) ?_
  refine v_iadd C dL_law_1144 ?_
  refine v_eq (y := 2) (by decide) ?_
  refine v_sld (v := xs 2) C hX hbl hbA dL_law_1145 (ti_in (show (2 : Int32).toInt = 2 by decide) (by decide) (by decide)) rfl ?_
  refine v_aload_n C 0 dL_law_1146 rfl rfl ?_
  refine v_iload_n C 3 dL_law_1147 rfl rfl ?_
  refine v_iconst (v := 3) C dL_law_1148 (by decide) ?_
  refine v_iadd C dL_law_1149 ?_
  refine v_eq (y := 3) (by decide) ?_
  refine v_sld (v := xs 3) C hX hbl hbA dL_law_1150 (ti_in (show (3 : Int32).toInt = 3 by decide) (by decide) (by decide)) rfl ?_
  refine v_aload_n C 0 dL_law_1151 rfl rfl ?_
  refine v_iload_n C 3 dL_law_1152 rfl rfl ?_
  refine v_iconst (v := 4) C dL_law_1153 (by decide) ?_
  refine v_iadd C dL_law_1154 ?_
  refine v_eq (y := 4) (by decide) ?_
  refine v_sld (v := xs 4) C hX hbl hbA dL_law_1155 (ti_in (show (4 : Int32).toInt = 4 by decide) (by decide) (by decide)) rfl ?_
  refine v_aload_n C 0 dL_law_1156 rfl rfl ?_
  refine v_iload_n C 3 dL_law_1157 rfl rfl ?_
  refine v_iconst (v := 5) C dL_law_1158 (by decide) ?_
  refine v_iadd C dL_law_1159 ?_
  refine v_eq (y := 5) (by decide) ?_
  refine v_sld (v := xs 5) C hX hbl hbA dL_law_1160 (ti_in (show (5 : Int32).toInt = 5 by decide) (by decide) (by decide)) rfl ?_
  refine v_cVi C dL_law_1161 lL_125 mX9_mend 68 (by decide) hM1.1 (by decide) rfl (m_mend l G 98 ad E2 (by decide) hM1 (xs 1) (xs 2) (xs 3) (xs 4) (xs 5)) ⟨by decide, by decide⟩ rfl (Nat.le_of_ble_eq_true rfl) ⟨by decide, by decide⟩ (fun r4 E5 hq6 => ?_)
  have geq : r1.toInt = r4.toInt := g1.trans (Eq.symm hq6)
  refine b_icmp_eq C 1288 dL_law_1164 (by decide) (rfl : Int32.toInt r1 = _) (rfl : Int32.toInt r4 = _) (fun c7 => ?_) (fun c7 => absurd geq c7)
  refine v_sub (lv' := [(0, .ref b), (3, .int 0)]) [0, 3] rfl ?_
  exact lw_tail C hX hbl hbA hA hlr (by decide) (by decide)
set_option maxRecDepth 20000 in
theorem lw_k27 {X : Mx} {l : Launch} {G : Gl} {A : Nat → Prop} (C : Cx X l G A "OddHoursLaw" code 4 ret room_1) {b : Nat} {xs : Nat → Int32} (hX : va_X b 6 xs X.s X.s.heap) (hbl : b < X.s.heap.size) (hbA : ¬ A b) (hA : ∀ q, A q → X.s.heap.size ≤ q) (hlr : X.args = #[Value.ref b]) {ad : Nat → Nat} {E : Nat → va_E} (h8 : Fresh8 G ad E) (hM : FreshM G ad E) : V X G A 4 (lw_Z X.below #[Value.ref b] X.s) 98 ad 1000 400000 E 1169 [(0, .ref b), (1, .ref (ad 0)), (2, .ref (ad 68)), (3, .int 0)] [] := by
  obtain ⟨h0, ⟨ms1, ld1, ys1, h1, h2, h3, h4, h5, hcP, hcF⟩, h6, h7, h8a, hPf, h45, h46, h47, h48, h49, h50, h51, hq52, hq58, h64, h65, h66, h67⟩ := h8
  have hz : (ip0 1).toInt = 0 := by decide
  have hPr : ∀ i, i < 6 → E (9 + 6 * i) = ob 5 (rP ad (9 + 6 * i)) ip0 := fun i hi => (hPf i hi).1
  refine v_aload_n C 1 dL_law_1169 rfl rfl ?_
  refine v_aload_n C 0 dL_law_1170 rfl rfl ?_
  refine v_iload_n C 3 dL_law_1171 rfl rfl ?_
  refine v_iconst (v := 1) C dL_law_1172 (by decide) ?_
  refine v_iadd C dL_law_1173 ?_
  refine v_eq (y := 1) (by decide) ?_
  refine v_sld (v := xs 1) C hX hbl hbA dL_law_1174 (ti_in (show (1 : Int32).toInt = 1 by decide) (by decide) (by decide)) rfl ?_
  refine v_aload_n C 0 dL_law_1175 rfl rfl ?_
  refine v_iload_n C 3 dL_law_1176 rfl rfl ?_
  refine v_iconst (v := 2) C dL_law_1177 (by decide) ?_
  refine v_iadd C dL_law_1178 ?_
  refine v_eq (y := 2) (by decide) ?_
  refine v_sld (v := xs 2) C hX hbl hbA dL_law_1179 (ti_in (show (2 : Int32).toInt = 2 by decide) (by decide) (by decide)) rfl ?_
  refine v_cVi C dL_law_1180 lL_126 mX8_mended 0 (by decide) h0 (by decide) rfl (e_mended l G 98 ad E (by decide) h0 h6 hz (by decide) h51 hq58.1 (xs 1) (xs 2)) ⟨by decide, by decide⟩ rfl (Nat.le_of_ble_eq_true rfl) ⟨by decide, by decide⟩ (fun r1 E2 hq3 => ?_)
  have gg := hq3
  have g1 := gg.1
  have hM1 : FreshM G ad E2 := hM.keep (fun _ _ => rfl) (fun j _ h => gg.2 j h)
  refine v_aload_n C 2 dL_law_1183 rfl rfl ?_
  refine v_aload_n C 0 dL_law_1184 rfl rfl ?_
  refine v_iload_n C 3 dL_law_1185 rfl rfl ?_
  refine v_iconst (v := 1) C dL_law_1186 (by decide) ?_
  refine v_iadd C dL_law_1187 ?_
  refine v_eq (y := 1) (by decide) ?_
  refine v_sld (v := xs 1) C hX hbl hbA dL_law_1188 (ti_in (show (1 : Int32).toInt = 1 by decide) (by decide) (by decide)) rfl ?_
  refine v_aload_n C 0 dL_law_1189 rfl rfl ?_
  refine v_iload_n C 3 dL_law_1190 rfl rfl ?_
  refine v_iconst (v := 2) C dL_law_1191 (by decide) ?_
  refine v_iadd C dL_law_1192 ?_
  refine v_eq (y := 2) (by decide) ?_
  refine v_sld (v := xs 2) C hX hbl hbA dL_law_1193 (ti_in (show (2 : Int32).toInt = 2 by decide) (by decide) (by decide)) rfl ?_
  refine v_cVi C dL_law_1194 lL_129 mX9_mended 68 (by decide) hM1.1 (by decide) rfl (m_mended l G 98 ad E2 (by decide) hM1 (xs 1) (xs 2)) ⟨by decide, by decide⟩ rfl (Nat.le_of_ble_eq_true rfl) ⟨by decide, by decide⟩ (fun r4 E5 hq6 => ?_)
  have geq : r1.toInt = r4.toInt := g1.trans (Eq.symm hq6)
  refine b_icmp_eq C 1288 dL_law_1197 (by decide) (rfl : Int32.toInt r1 = _) (rfl : Int32.toInt r4 = _) (fun c7 => ?_) (fun c7 => absurd geq c7)
  refine v_sub (lv' := [(0, .ref b), (3, .int 0)]) [0, 3] rfl ?_
  exact lw_tail C hX hbl hbA hA hlr (by decide) (by decide)
set_option maxRecDepth 20000 in
theorem lw_k28 {X : Mx} {l : Launch} {G : Gl} {A : Nat → Prop} (C : Cx X l G A "OddHoursLaw" code 4 ret room_1) {b : Nat} {xs : Nat → Int32} (hX : va_X b 6 xs X.s X.s.heap) (hbl : b < X.s.heap.size) (hbA : ¬ A b) (hA : ∀ q, A q → X.s.heap.size ≤ q) (hlr : X.args = #[Value.ref b]) {ad : Nat → Nat} {E : Nat → va_E} (h8 : Fresh8 G ad E) (hM : FreshM G ad E) : V X G A 4 (lw_Z X.below #[Value.ref b] X.s) 98 ad 1000 400000 E 1202 [(0, .ref b), (1, .ref (ad 0)), (2, .ref (ad 68)), (3, .int 0)] [] := by
  obtain ⟨h0, ⟨ms1, ld1, ys1, h1, h2, h3, h4, h5, hcP, hcF⟩, h6, h7, h8a, hPf, h45, h46, h47, h48, h49, h50, h51, hq52, hq58, h64, h65, h66, h67⟩ := h8
  have hz : (ip0 1).toInt = 0 := by decide
  have hPr : ∀ i, i < 6 → E (9 + 6 * i) = ob 5 (rP ad (9 + 6 * i)) ip0 := fun i hi => (hPf i hi).1
  refine v_aload_n C 1 dL_law_1202 rfl rfl ?_
  refine v_aload_n C 0 dL_law_1203 rfl rfl ?_
  refine v_iload_n C 3 dL_law_1204 rfl rfl ?_
  refine v_iconst (v := 1) C dL_law_1205 (by decide) ?_
  refine v_iadd C dL_law_1206 ?_
  refine v_eq (y := 1) (by decide) ?_
  refine v_sld (v := xs 1) C hX hbl hbA dL_law_1207 (ti_in (show (1 : Int32).toInt = 1 by decide) (by decide) (by decide)) rfl ?_
  refine v_aload_n C 0 dL_law_1208 rfl rfl ?_
  refine v_iload_n C 3 dL_law_1209 rfl rfl ?_
  refine v_iconst (v := 2) C dL_law_1210 (by decide) ?_
  refine v_iadd C dL_law_1211 ?_
  refine v_eq (y := 2) (by decide) ?_
  refine v_sld (v := xs 2) C hX hbl hbA dL_law_1212 (ti_in (show (2 : Int32).toInt = 2 by decide) (by decide) (by decide)) rfl ?_
  refine v_aload_n C 0 dL_law_1213 rfl rfl ?_
  refine v_iload_n C 3 dL_law_1214 rfl rfl ?_
  refine v_iconst (v := 3) C dL_law_1215 (by decide) ?_
  refine v_iadd C dL_law_1216 ?_
  refine v_eq (y := 3) (by decide) ?_
  refine v_sld (v := xs 3) C hX hbl hbA dL_law_1217 (ti_in (show (3 : Int32).toInt = 3 by decide) (by decide) (by decide)) rfl ?_
  refine v_aload_n C 0 dL_law_1218 rfl rfl ?_
  refine v_iload_n C 3 dL_law_1219 rfl rfl ?_
  refine v_iconst (v := 4) C dL_law_1220 (by decide) ?_
  refine v_iadd C dL_law_1221 ?_
  refine v_eq (y := 4) (by decide) ?_
  refine v_sld (v := xs 4) C hX hbl hbA dL_law_1222 (ti_in (show (4 : Int32).toInt = 4 by decide) (by decide) (by decide)) rfl ?_
  refine v_aload_n C 0 dL_law_1223 rfl rfl ?_
  refine v_iload_n C 3 dL_law_1224 rfl rfl ?_
  refine v_iconst (v := 5) C dL_law_1225 (by decide) ?_
  refine v_iadd C dL_law_1226 ?_
  refine v_eq (y := 5) (by decide) ?_
  refine v_sld (v := xs 5) C hX hbl hbA dL_law_1227 (ti_in (show (5 : Int32).toInt = 5 by decide) (by decide) (by decide)) rfl ?_
  refine v_cVi C dL_law_1228 lL_130 mX8_meetings 0 (by decide) h0 (by decide) rfl (e_meetings l G 98 ad E (by decide) h0 h6 hz (xs 1) (xs 2) (xs 3) (xs 4) (xs 5)) ⟨by decide, by decide⟩ rfl (Nat.le_of_ble_eq_true rfl) ⟨by decide, by decide⟩ (fun r1 E2 hq3 => ?_)
  have gg := hq3
  have g1 := gg.1
  have hM1 : FreshM G ad E2 := hM.keep (fun _ _ => rfl) (fun j _ h => gg.2 j h)
  refine v_aload_n C 2 dL_law_1231 rfl rfl ?_
  refine v_aload_n C 0 dL_law_1232 rfl rfl ?_
  refine v_iload_n C 3 dL_law_1233 rfl rfl ?_
  refine v_iconst (v := 1) C dL_law_1234 (by decide) ?_
  refine v_iadd C dL_law_1235 ?_
  refine v_eq (y := 1) (by decide) ?_
  refine v_sld (v := xs 1) C hX hbl hbA dL_law_1236 (ti_in (show (1 : Int32).toInt = 1 by decide) (by decide) (by decide)) rfl ?_
  refine v_aload_n C 0 dL_law_1237 rfl rfl ?_
  refine v_iload_n C 3 dL_law_1238 rfl rfl ?_
  refine v_iconst (v := 2) C dL_law_1239 (by decide) ?_
  refine v_iadd C dL_law_1240 ?_
  refine v_eq (y := 2) (by decide) ?_
  refine v_sld (v := xs 2) C hX hbl hbA dL_law_1241 (ti_in (show (2 : Int32).toInt = 2 by decide) (by decide) (by decide)) rfl ?_
  refine v_aload_n C 0 dL_law_1242 rfl rfl ?_
  refine v_iload_n C 3 dL_law_1243 rfl rfl ?_
  refine v_iconst (v := 3) C dL_law_1244 (by decide) ?_
  refine v_iadd C dL_law_1245 ?_
  refine v_eq (y := 3) (by decide) ?_
  refine v_sld (v := xs 3) C hX hbl hbA dL_law_1246 (ti_in (show (3 : Int32).toInt = 3 by decide) (by decide) (by decide)) rfl ?_
  refine v_aload_n C 0 dL_law_1247 rfl rfl ?_
  refine v_iload_n C 3 dL_law_1248 rfl rfl ?_
  refine v_iconst (v := 4) C dL_law_1249 (by decide) ?_
  refine v_iadd C dL_law_1250 ?_
  refine v_eq (y := 4) (by decide) ?_
  refine v_sld (v := xs 4) C hX hbl hbA dL_law_1251 (ti_in (show (4 : Int32).toInt = 4 by decide) (by decide) (by decide)) rfl ?_
  refine v_aload_n C 0 dL_law_1252 rfl rfl ?_
  refine v_iload_n C 3 dL_law_1253 rfl rfl ?_
  refine v_iconst (v := 5) C dL_law_1254 (by decide) ?_
  refine v_iadd C dL_law_1255 ?_
  refine v_eq (y := 5) (by decide) ?_
  refine v_sld (v := xs 5) C hX hbl hbA dL_law_1256 (ti_in (show (5 : Int32).toInt = 5 by decide) (by decide) (by decide)) rfl ?_
  refine v_cVi C dL_law_1257 lL_133 mX9_meetings 68 (by decide) hM1.1 (by decide) rfl (m_meetings l G 98 ad E2 (by decide) hM1 (xs 1) (xs 2) (xs 3) (xs 4) (xs 5)) ⟨by decide, by decide⟩ rfl (Nat.le_of_ble_eq_true rfl) ⟨by decide, by decide⟩ (fun r4 E5 hq6 => ?_)
  have geq : r1.toInt = r4.toInt := g1.trans (Eq.symm hq6)
  refine b_icmp_eq C 1288 dL_law_1260 (by decide) (rfl : Int32.toInt r1 = _) (rfl : Int32.toInt r4 = _) (fun c7 => ?_) (fun c7 => absurd geq c7)
  refine v_sub (lv' := [(0, .ref b), (3, .int 0)]) [0, 3] rfl ?_
  exact lw_tail C hX hbl hbA hA hlr (by decide) (by decide)
set_option maxRecDepth 20000 in
theorem lw_k29 {X : Mx} {l : Launch} {G : Gl} {A : Nat → Prop} (C : Cx X l G A "OddHoursLaw" code 4 ret room_1) {b : Nat} {xs : Nat → Int32} (hX : va_X b 6 xs X.s X.s.heap) (hbl : b < X.s.heap.size) (hbA : ¬ A b) (hA : ∀ q, A q → X.s.heap.size ≤ q) (hlr : X.args = #[Value.ref b]) {ad : Nat → Nat} {E : Nat → va_E} (h8 : Fresh8 G ad E) (hM : FreshM G ad E) : V X G A 4 (lw_Z X.below #[Value.ref b] X.s) 98 ad 1000 400000 E 1265 [(0, .ref b), (1, .ref (ad 0)), (2, .ref (ad 68)), (3, .int 0)] [] := by
  obtain ⟨h0, ⟨ms1, ld1, ys1, h1, h2, h3, h4, h5, hcP, hcF⟩, h6, h7, h8a, hPf, h45, h46, h47, h48, h49, h50, h51, hq52, hq58, h64, h65, h66, h67⟩ := h8
  have hz : (ip0 1).toInt = 0 := by decide
  have hPr : ∀ i, i < 6 → E (9 + 6 * i) = ob 5 (rP ad (9 + 6 * i)) ip0 := fun i hi => (hPf i hi).1
  refine v_aload_n C 1 dL_law_1265 rfl rfl ?_
  refine v_aload_n C 0 dL_law_1266 rfl rfl ?_
  refine v_iload_n C 3 dL_law_1267 rfl rfl ?_
  refine v_iconst (v := 1) C dL_law_1268 (by decide) ?_
  refine v_iadd C dL_law_1269 ?_
  refine v_eq (y := 1) (by decide) ?_
  refine v_sld (v := xs 1) C hX hbl hbA dL_law_1270 (ti_in (show (1 : Int32).toInt = 1 by decide) (by decide) (by decide)) rfl ?_
  refine v_cVi C dL_law_1271 lL_134 mX8_count 0 (by decide) h0 (by decide) rfl (e_count l G 98 ad E (by decide) h0 h6 hz h8a hfp8 hPr (by decide) h1 h2 h3 h4 h5 hcP hcF (xs 1)) ⟨by decide, by decide⟩ rfl (Nat.le_of_ble_eq_true rfl) ⟨by decide, by decide⟩ (fun r1 E2 hq3 => ?_)
  have gg := hq3
  rw [show (io0 6).toInt = 0 by decide] at gg
  have g1 := gg.1
  have hM1 : FreshM G ad E2 := hM.keep (fun _ _ => rfl) (fun j _ h => gg.2 j h)
  refine v_aload_n C 2 dL_law_1274 rfl rfl ?_
  refine v_aload_n C 0 dL_law_1275 rfl rfl ?_
  refine v_iload_n C 3 dL_law_1276 rfl rfl ?_
  refine v_iconst (v := 1) C dL_law_1277 (by decide) ?_
  refine v_iadd C dL_law_1278 ?_
  refine v_eq (y := 1) (by decide) ?_
  refine v_sld (v := xs 1) C hX hbl hbA dL_law_1279 (ti_in (show (1 : Int32).toInt = 1 by decide) (by decide) (by decide)) rfl ?_
  refine v_cVi C dL_law_1280 lL_137 mX9_count 68 (by decide) hM1.1 (by decide) rfl (m_count l G 98 ad E2 (by decide) hM1 (xs 1)) ⟨by decide, by decide⟩ rfl (Nat.le_of_ble_eq_true rfl) ⟨by decide, by decide⟩ (fun r4 E5 hq6 => ?_)
  have geq : r1.toInt = r4.toInt := g1.trans (Eq.symm hq6)
  refine b_icmp_eq C 1288 dL_law_1283 (by decide) (rfl : Int32.toInt r1 = _) (rfl : Int32.toInt r4 = _) (fun c7 => ?_) (fun c7 => absurd geq c7)
  refine v_sub (lv' := [(0, .ref b), (3, .int 0)]) [0, 3] rfl ?_
  exact lw_tail C hX hbl hbA hA hlr (by decide) (by decide)
