set_option maxRecDepth 20000 in
theorem lw_k0 {X : Mx} {l : Launch} {G : Gl} {A : Nat → Prop} (C : Cx X l G A "OddHoursLaw" code 4 ret room_1) {b L : Nat} {xs : Nat → Int32} (hX : va_X b L xs X.s X.s.heap) (hbl : b < X.s.heap.size) (hbA : ¬ A b) (hA : ∀ q, A q → X.s.heap.size ≤ q) (hlr : X.args = #[Value.ref b]) {t : Nat} {x : Int32} (hx : x.toInt = 6 * (t : Int)) (hL : 6 * t + 6 ≤ L) (hL0 : L ≤ 3072) (kont : ∀ (k : Nat) (ic md : Nat → Int32) (td kn : Int32) (fl : Nat → Int32) (ad : Nat → Nat) (E : Nat → va_E), C8 G ad k ic md td kn fl E → R9 G ad (98 + 9 * k) k ic md td kn fl E → V X G A 4 (lw_Z X.below #[Value.ref b] X.s) (98 + 9 * k) ad (1000 + 9 * (t + 1)) (400000 + 3246 * (t + 1)) E 1288 [(0, .ref b), (1, .ref (ad 0)), (2, .ref (ad 68)), (3, .int x)] []) {k : Nat} {ic md : Nat → Int32} {td kn : Int32} {fl : Nat → Int32} {ad : Nat → Nat} {E : Nat → va_E} (h8 : C8 G ad k ic md td kn fl E) (h9 : R9 G ad (98 + 9 * k) k ic md td kn fl E) : V X G A 4 (lw_Z X.below #[Value.ref b] X.s) (98 + 9 * k) ad (1000 + 9 * t) (400000 + 3246 * t) E 168 [(0, .ref b), (1, .ref (ad 0)), (2, .ref (ad 68)), (3, .int x)] [] := by
  refine v_aload_n C 1 dL_law_168 rfl rfl ?_
  refine v_aload_n C 0 dL_law_169 rfl rfl ?_
  refine v_iload_n C 3 dL_law_170 rfl rfl ?_
  refine v_iconst (v := 1) C dL_law_171 (by decide) ?_
  refine v_iadd C dL_law_172 ?_
  refine v_top (fun x1 ex1 => ?_)
  have hx1 : x1.toInt = ((6 * (t : Int)) + 1) := by rw [ex1]; exact ti_add hx (show (1 : Int32).toInt = 1 by decide) (by omega) (by omega)
  refine v_sld (v := xs (6 * t + 1)) C hX hbl hbA dL_law_173 (ti_in hx1 (by omega) (by omega)) (by rw [ti_cl hx1, show Int.toNat ((6 * (t : Int)) + 1) = 6 * t + 1 by omega]) ?_
  refine v_aload_n C 0 dL_law_174 rfl rfl ?_
  refine v_iload_n C 3 dL_law_175 rfl rfl ?_
  refine v_iconst (v := 2) C dL_law_176 (by decide) ?_
  refine v_iadd C dL_law_177 ?_
  refine v_top (fun x2 ex2 => ?_)
  have hx2 : x2.toInt = ((6 * (t : Int)) + 2) := by rw [ex2]; exact ti_add hx (show (2 : Int32).toInt = 2 by decide) (by omega) (by omega)
  refine v_sld (v := xs (6 * t + 2)) C hX hbl hbA dL_law_178 (ti_in hx2 (by omega) (by omega)) (by rw [ti_cl hx2, show Int.toNat ((6 * (t : Int)) + 2) = 6 * t + 2 by omega]) ?_
  obtain ⟨io, hE0, -, -⟩ := id h8.2.2.1
  refine v_cVi C dL_law_179 lL_13 mX8_month 0 (by omega) hE0 (by decide) rfl (a_month l G ad h8 h9 (xs (6 * t + 1)) (xs (6 * t + 2))) ⟨by decide, by decide⟩ rfl (Nat.le_of_ble_eq_true rfl) ⟨(show 1000 + 9 * t ≤ 600000 by omega), (show 400000 + 3246 * t ≤ 7302250 by omega)⟩ (fun r3 E4 hq5 => ?_)
  obtain ⟨g1, h8, h9⟩ := hq5
  refine v_pop C dL_law_182 rfl ?_
  refine v_aload_n C 2 dL_law_183 rfl rfl ?_
  refine v_aload_n C 0 dL_law_184 rfl rfl ?_
  refine v_iload_n C 3 dL_law_185 rfl rfl ?_
  refine v_iconst (v := 1) C dL_law_186 (by decide) ?_
  refine v_iadd C dL_law_187 ?_
  refine v_top (fun x6 ex6 => ?_)
  have hx6 : x6.toInt = ((6 * (t : Int)) + 1) := by rw [ex6]; exact ti_add hx (show (1 : Int32).toInt = 1 by decide) (by omega) (by omega)
  refine v_sld (v := xs (6 * t + 1)) C hX hbl hbA dL_law_188 (ti_in hx6 (by omega) (by omega)) (by rw [ti_cl hx6, show Int.toNat ((6 * (t : Int)) + 1) = 6 * t + 1 by omega]) ?_
  refine v_aload_n C 0 dL_law_189 rfl rfl ?_
  refine v_iload_n C 3 dL_law_190 rfl rfl ?_
  refine v_iconst (v := 2) C dL_law_191 (by decide) ?_
  refine v_iadd C dL_law_192 ?_
  refine v_top (fun x7 ex7 => ?_)
  have hx7 : x7.toInt = ((6 * (t : Int)) + 2) := by rw [ex7]; exact ti_add hx (show (2 : Int32).toInt = 2 by decide) (by omega) (by omega)
  refine v_sld (v := xs (6 * t + 2)) C hX hbl hbA dL_law_193 (ti_in hx7 (by omega) (by omega)) (by rw [ti_cl hx7, show Int.toNat ((6 * (t : Int)) + 2) = 6 * t + 2 by omega]) ?_
  obtain ⟨im, hM, -⟩ := id h9.1.1
  refine v_cVi C dL_law_194 lL_17 mX9_month 68 (by omega) hM.2.2.1 (by decide) rfl (b_month l G ad h8 h9 (xs (6 * t + 1)) (xs (6 * t + 2))) ⟨by decide, by decide⟩ rfl (Nat.le_of_ble_eq_true rfl) ⟨(show 1000 + 9 * t ≤ 600000 by omega), (show 400000 + 3246 * t ≤ 7302250 by omega)⟩ (fun r8 E9 hq10 => ?_)
  obtain ⟨g2, h8, h9⟩ := hq10
  refine v_pop C dL_law_197 rfl ?_
  refine v_goto C 1288 dL_law_198 (by decide) ?_
  exact v_widen (by omega) (by omega) (kont _ _ _ _ _ _ _ _ h8 h9)
set_option maxRecDepth 20000 in
theorem lw_k1 {X : Mx} {l : Launch} {G : Gl} {A : Nat → Prop} (C : Cx X l G A "OddHoursLaw" code 4 ret room_1) {b L : Nat} {xs : Nat → Int32} (hX : va_X b L xs X.s X.s.heap) (hbl : b < X.s.heap.size) (hbA : ¬ A b) (hA : ∀ q, A q → X.s.heap.size ≤ q) (hlr : X.args = #[Value.ref b]) {t : Nat} {x : Int32} (hx : x.toInt = 6 * (t : Int)) (hL : 6 * t + 6 ≤ L) (hL0 : L ≤ 3072) (kont : ∀ (k : Nat) (ic md : Nat → Int32) (td kn : Int32) (fl : Nat → Int32) (ad : Nat → Nat) (E : Nat → va_E), C8 G ad k ic md td kn fl E → R9 G ad (98 + 9 * k) k ic md td kn fl E → V X G A 4 (lw_Z X.below #[Value.ref b] X.s) (98 + 9 * k) ad (1000 + 9 * (t + 1)) (400000 + 3246 * (t + 1)) E 1288 [(0, .ref b), (1, .ref (ad 0)), (2, .ref (ad 68)), (3, .int x)] []) {k : Nat} {ic md : Nat → Int32} {td kn : Int32} {fl : Nat → Int32} {ad : Nat → Nat} {E : Nat → va_E} (h8 : C8 G ad k ic md td kn fl E) (h9 : R9 G ad (98 + 9 * k) k ic md td kn fl E) : V X G A 4 (lw_Z X.below #[Value.ref b] X.s) (98 + 9 * k) ad (1000 + 9 * t) (400000 + 3246 * t) E 201 [(0, .ref b), (1, .ref (ad 0)), (2, .ref (ad 68)), (3, .int x)] [] := by
  refine v_aload_n C 1 dL_law_201 rfl rfl ?_
  refine v_aload_n C 0 dL_law_202 rfl rfl ?_
  refine v_iload_n C 3 dL_law_203 rfl rfl ?_
  refine v_iconst (v := 1) C dL_law_204 (by decide) ?_
  refine v_iadd C dL_law_205 ?_
  refine v_top (fun x1 ex1 => ?_)
  have hx1 : x1.toInt = ((6 * (t : Int)) + 1) := by rw [ex1]; exact ti_add hx (show (1 : Int32).toInt = 1 by decide) (by omega) (by omega)
  refine v_sld (v := xs (6 * t + 1)) C hX hbl hbA dL_law_206 (ti_in hx1 (by omega) (by omega)) (by rw [ti_cl hx1, show Int.toNat ((6 * (t : Int)) + 1) = 6 * t + 1 by omega]) ?_
  refine v_aload_n C 0 dL_law_207 rfl rfl ?_
  refine v_iload_n C 3 dL_law_208 rfl rfl ?_
  refine v_iconst (v := 2) C dL_law_209 (by decide) ?_
  refine v_iadd C dL_law_210 ?_
  refine v_top (fun x2 ex2 => ?_)
  have hx2 : x2.toInt = ((6 * (t : Int)) + 2) := by rw [ex2]; exact ti_add hx (show (2 : Int32).toInt = 2 by decide) (by omega) (by omega)
  refine v_sld (v := xs (6 * t + 2)) C hX hbl hbA dL_law_211 (ti_in hx2 (by omega) (by omega)) (by rw [ti_cl hx2, show Int.toNat ((6 * (t : Int)) + 2) = 6 * t + 2 by omega]) ?_
  refine v_aload_n C 0 dL_law_212 rfl rfl ?_
  refine v_iload_n C 3 dL_law_213 rfl rfl ?_
  refine v_iconst (v := 3) C dL_law_214 (by decide) ?_
  refine v_iadd C dL_law_215 ?_
  refine v_top (fun x3 ex3 => ?_)
  have hx3 : x3.toInt = ((6 * (t : Int)) + 3) := by rw [ex3]; exact ti_add hx (show (3 : Int32).toInt = 3 by decide) (by omega) (by omega)
  refine v_sld (v := xs (6 * t + 3)) C hX hbl hbA dL_law_216 (ti_in hx3 (by omega) (by omega)) (by rw [ti_cl hx3, show Int.toNat ((6 * (t : Int)) + 3) = 6 * t + 3 by omega]) ?_
  obtain ⟨io, hE0, -, -⟩ := id h8.2.2.1
  refine v_cVi C dL_law_217 lL_18 mX8_leap 0 (by omega) hE0 (by decide) rfl (a_leap l G ad h8 h9 (xs (6 * t + 1)) (xs (6 * t + 2)) (xs (6 * t + 3))) ⟨by decide, by decide⟩ rfl (Nat.le_of_ble_eq_true rfl) ⟨(show 1000 + 9 * t ≤ 600000 by omega), (show 400000 + 3246 * t ≤ 7302250 by omega)⟩ (fun r4 E5 hq6 => ?_)
  obtain ⟨g1, h8, h9⟩ := hq6
  refine v_pop C dL_law_220 rfl ?_
  refine v_aload_n C 2 dL_law_221 rfl rfl ?_
  refine v_aload_n C 0 dL_law_222 rfl rfl ?_
  refine v_iload_n C 3 dL_law_223 rfl rfl ?_
  refine v_iconst (v := 1) C dL_law_224 (by decide) ?_
  refine v_iadd C dL_law_225 ?_
  refine v_top (fun x7 ex7 => ?_)
  have hx7 : x7.toInt = ((6 * (t : Int)) + 1) := by rw [ex7]; exact ti_add hx (show (1 : Int32).toInt = 1 by decide) (by omega) (by omega)
  refine v_sld (v := xs (6 * t + 1)) C hX hbl hbA dL_law_226 (ti_in hx7 (by omega) (by omega)) (by rw [ti_cl hx7, show Int.toNat ((6 * (t : Int)) + 1) = 6 * t + 1 by omega]) ?_
  refine v_aload_n C 0 dL_law_227 rfl rfl ?_
  refine v_iload_n C 3 dL_law_228 rfl rfl ?_
  refine v_iconst (v := 2) C dL_law_229 (by decide) ?_
  refine v_iadd C dL_law_230 ?_
  refine v_top (fun x8 ex8 => ?_)
  have hx8 : x8.toInt = ((6 * (t : Int)) + 2) := by rw [ex8]; exact ti_add hx (show (2 : Int32).toInt = 2 by decide) (by omega) (by omega)
  refine v_sld (v := xs (6 * t + 2)) C hX hbl hbA dL_law_231 (ti_in hx8 (by omega) (by omega)) (by rw [ti_cl hx8, show Int.toNat ((6 * (t : Int)) + 2) = 6 * t + 2 by omega]) ?_
  refine v_aload_n C 0 dL_law_232 rfl rfl ?_
  refine v_iload_n C 3 dL_law_233 rfl rfl ?_
  refine v_iconst (v := 3) C dL_law_234 (by decide) ?_
  refine v_iadd C dL_law_235 ?_
  refine v_top (fun x9 ex9 => ?_)
  have hx9 : x9.toInt = ((6 * (t : Int)) + 3) := by rw [ex9]; exact ti_add hx (show (3 : Int32).toInt = 3 by decide) (by omega) (by omega)
  refine v_sld (v := xs (6 * t + 3)) C hX hbl hbA dL_law_236 (ti_in hx9 (by omega) (by omega)) (by rw [ti_cl hx9, show Int.toNat ((6 * (t : Int)) + 3) = 6 * t + 3 by omega]) ?_
  obtain ⟨im, hM, -⟩ := id h9.1.1
  refine v_cVi C dL_law_237 lL_22 mX9_leap 68 (by omega) hM.2.2.1 (by decide) rfl (b_leap l G ad h8 h9 (xs (6 * t + 1)) (xs (6 * t + 2)) (xs (6 * t + 3))) ⟨by decide, by decide⟩ rfl (Nat.le_of_ble_eq_true rfl) ⟨(show 1000 + 9 * t ≤ 600000 by omega), (show 400000 + 3246 * t ≤ 7302250 by omega)⟩ (fun r10 E11 hq12 => ?_)
  obtain ⟨g2, h8, h9⟩ := hq12
  refine v_pop C dL_law_240 rfl ?_
  refine v_goto C 1288 dL_law_241 (by decide) ?_
  exact v_widen (by omega) (by omega) (kont _ _ _ _ _ _ _ _ h8 h9)
set_option maxRecDepth 20000 in
theorem lw_k2 {X : Mx} {l : Launch} {G : Gl} {A : Nat → Prop} (C : Cx X l G A "OddHoursLaw" code 4 ret room_1) {b L : Nat} {xs : Nat → Int32} (hX : va_X b L xs X.s X.s.heap) (hbl : b < X.s.heap.size) (hbA : ¬ A b) (hA : ∀ q, A q → X.s.heap.size ≤ q) (hlr : X.args = #[Value.ref b]) {t : Nat} {x : Int32} (hx : x.toInt = 6 * (t : Int)) (hL : 6 * t + 6 ≤ L) (hL0 : L ≤ 3072) (kont : ∀ (k : Nat) (ic md : Nat → Int32) (td kn : Int32) (fl : Nat → Int32) (ad : Nat → Nat) (E : Nat → va_E), C8 G ad k ic md td kn fl E → R9 G ad (98 + 9 * k) k ic md td kn fl E → V X G A 4 (lw_Z X.below #[Value.ref b] X.s) (98 + 9 * k) ad (1000 + 9 * (t + 1)) (400000 + 3246 * (t + 1)) E 1288 [(0, .ref b), (1, .ref (ad 0)), (2, .ref (ad 68)), (3, .int x)] []) {k : Nat} {ic md : Nat → Int32} {td kn : Int32} {fl : Nat → Int32} {ad : Nat → Nat} {E : Nat → va_E} (h8 : C8 G ad k ic md td kn fl E) (h9 : R9 G ad (98 + 9 * k) k ic md td kn fl E) : V X G A 4 (lw_Z X.below #[Value.ref b] X.s) (98 + 9 * k) ad (1000 + 9 * t) (400000 + 3246 * t) E 244 [(0, .ref b), (1, .ref (ad 0)), (2, .ref (ad 68)), (3, .int x)] [] := by
  refine v_aload_n C 1 dL_law_244 rfl rfl ?_
  refine v_aload_n C 0 dL_law_245 rfl rfl ?_
  refine v_iload_n C 3 dL_law_246 rfl rfl ?_
  refine v_iconst (v := 1) C dL_law_247 (by decide) ?_
  refine v_iadd C dL_law_248 ?_
  refine v_top (fun x1 ex1 => ?_)
  have hx1 : x1.toInt = ((6 * (t : Int)) + 1) := by rw [ex1]; exact ti_add hx (show (1 : Int32).toInt = 1 by decide) (by omega) (by omega)
  refine v_sld (v := xs (6 * t + 1)) C hX hbl hbA dL_law_249 (ti_in hx1 (by omega) (by omega)) (by rw [ti_cl hx1, show Int.toNat ((6 * (t : Int)) + 1) = 6 * t + 1 by omega]) ?_
  refine v_aload_n C 0 dL_law_250 rfl rfl ?_
  refine v_iload_n C 3 dL_law_251 rfl rfl ?_
  refine v_iconst (v := 2) C dL_law_252 (by decide) ?_
  refine v_iadd C dL_law_253 ?_
  refine v_top (fun x2 ex2 => ?_)
  have hx2 : x2.toInt = ((6 * (t : Int)) + 2) := by rw [ex2]; exact ti_add hx (show (2 : Int32).toInt = 2 by decide) (by omega) (by omega)
  refine v_sld (v := xs (6 * t + 2)) C hX hbl hbA dL_law_254 (ti_in hx2 (by omega) (by omega)) (by rw [ti_cl hx2, show Int.toNat ((6 * (t : Int)) + 2) = 6 * t + 2 by omega]) ?_
  obtain ⟨io, hE0, -, -⟩ := id h8.2.2.1
  refine v_cVi C dL_law_255 lL_23 mX8_week 0 (by omega) hE0 (by decide) rfl (a_week l G ad h8 h9 (xs (6 * t + 1)) (xs (6 * t + 2))) ⟨by decide, by decide⟩ rfl (Nat.le_of_ble_eq_true rfl) ⟨(show 1000 + 9 * t ≤ 600000 by omega), (show 400000 + 3246 * t ≤ 7302250 by omega)⟩ (fun r3 E4 hq5 => ?_)
  obtain ⟨g1, h8, h9⟩ := hq5
  refine v_pop C dL_law_258 rfl ?_
  refine v_aload_n C 2 dL_law_259 rfl rfl ?_
  refine v_aload_n C 0 dL_law_260 rfl rfl ?_
  refine v_iload_n C 3 dL_law_261 rfl rfl ?_
  refine v_iconst (v := 1) C dL_law_262 (by decide) ?_
  refine v_iadd C dL_law_263 ?_
  refine v_top (fun x6 ex6 => ?_)
  have hx6 : x6.toInt = ((6 * (t : Int)) + 1) := by rw [ex6]; exact ti_add hx (show (1 : Int32).toInt = 1 by decide) (by omega) (by omega)
  refine v_sld (v := xs (6 * t + 1)) C hX hbl hbA dL_law_264 (ti_in hx6 (by omega) (by omega)) (by rw [ti_cl hx6, show Int.toNat ((6 * (t : Int)) + 1) = 6 * t + 1 by omega]) ?_
  refine v_aload_n C 0 dL_law_265 rfl rfl ?_
  refine v_iload_n C 3 dL_law_266 rfl rfl ?_
  refine v_iconst (v := 2) C dL_law_267 (by decide) ?_
  refine v_iadd C dL_law_268 ?_
  refine v_top (fun x7 ex7 => ?_)
  have hx7 : x7.toInt = ((6 * (t : Int)) + 2) := by rw [ex7]; exact ti_add hx (show (2 : Int32).toInt = 2 by decide) (by omega) (by omega)
  refine v_sld (v := xs (6 * t + 2)) C hX hbl hbA dL_law_269 (ti_in hx7 (by omega) (by omega)) (by rw [ti_cl hx7, show Int.toNat ((6 * (t : Int)) + 2) = 6 * t + 2 by omega]) ?_
  obtain ⟨im, hM, -⟩ := id h9.1.1
  refine v_cVi C dL_law_270 lL_26 mX9_week 68 (by omega) hM.2.2.1 (by decide) rfl (b_week l G ad h8 h9 (xs (6 * t + 1)) (xs (6 * t + 2))) ⟨by decide, by decide⟩ rfl (Nat.le_of_ble_eq_true rfl) ⟨(show 1000 + 9 * t ≤ 600000 by omega), (show 400000 + 3246 * t ≤ 7302250 by omega)⟩ (fun r8 E9 hq10 => ?_)
  obtain ⟨g2, h8, h9⟩ := hq10
  refine v_pop C dL_law_273 rfl ?_
  refine v_goto C 1288 dL_law_274 (by decide) ?_
  exact v_widen (by omega) (by omega) (kont _ _ _ _ _ _ _ _ h8 h9)
set_option maxRecDepth 20000 in
theorem lw_k3 {X : Mx} {l : Launch} {G : Gl} {A : Nat → Prop} (C : Cx X l G A "OddHoursLaw" code 4 ret room_1) {b L : Nat} {xs : Nat → Int32} (hX : va_X b L xs X.s X.s.heap) (hbl : b < X.s.heap.size) (hbA : ¬ A b) (hA : ∀ q, A q → X.s.heap.size ≤ q) (hlr : X.args = #[Value.ref b]) {t : Nat} {x : Int32} (hx : x.toInt = 6 * (t : Int)) (hL : 6 * t + 6 ≤ L) (hL0 : L ≤ 3072) (kont : ∀ (k : Nat) (ic md : Nat → Int32) (td kn : Int32) (fl : Nat → Int32) (ad : Nat → Nat) (E : Nat → va_E), C8 G ad k ic md td kn fl E → R9 G ad (98 + 9 * k) k ic md td kn fl E → V X G A 4 (lw_Z X.below #[Value.ref b] X.s) (98 + 9 * k) ad (1000 + 9 * (t + 1)) (400000 + 3246 * (t + 1)) E 1288 [(0, .ref b), (1, .ref (ad 0)), (2, .ref (ad 68)), (3, .int x)] []) {k : Nat} {ic md : Nat → Int32} {td kn : Int32} {fl : Nat → Int32} {ad : Nat → Nat} {E : Nat → va_E} (h8 : C8 G ad k ic md td kn fl E) (h9 : R9 G ad (98 + 9 * k) k ic md td kn fl E) : V X G A 4 (lw_Z X.below #[Value.ref b] X.s) (98 + 9 * k) ad (1000 + 9 * t) (400000 + 3246 * t) E 277 [(0, .ref b), (1, .ref (ad 0)), (2, .ref (ad 68)), (3, .int x)] [] := by
  refine v_aload_n C 1 dL_law_277 rfl rfl ?_
  refine v_aload_n C 0 dL_law_278 rfl rfl ?_
  refine v_iload_n C 3 dL_law_279 rfl rfl ?_
  refine v_iconst (v := 1) C dL_law_280 (by decide) ?_
  refine v_iadd C dL_law_281 ?_
  refine v_top (fun x1 ex1 => ?_)
  have hx1 : x1.toInt = ((6 * (t : Int)) + 1) := by rw [ex1]; exact ti_add hx (show (1 : Int32).toInt = 1 by decide) (by omega) (by omega)
  refine v_sld (v := xs (6 * t + 1)) C hX hbl hbA dL_law_282 (ti_in hx1 (by omega) (by omega)) (by rw [ti_cl hx1, show Int.toNat ((6 * (t : Int)) + 1) = 6 * t + 1 by omega]) ?_
  refine v_aload_n C 0 dL_law_283 rfl rfl ?_
  refine v_iload_n C 3 dL_law_284 rfl rfl ?_
  refine v_iconst (v := 2) C dL_law_285 (by decide) ?_
  refine v_iadd C dL_law_286 ?_
  refine v_top (fun x2 ex2 => ?_)
  have hx2 : x2.toInt = ((6 * (t : Int)) + 2) := by rw [ex2]; exact ti_add hx (show (2 : Int32).toInt = 2 by decide) (by omega) (by omega)
  refine v_sld (v := xs (6 * t + 2)) C hX hbl hbA dL_law_287 (ti_in hx2 (by omega) (by omega)) (by rw [ti_cl hx2, show Int.toNat ((6 * (t : Int)) + 2) = 6 * t + 2 by omega]) ?_
  obtain ⟨io, hE0, -, -⟩ := id h8.2.2.1
  refine v_cVi C dL_law_288 lL_27 mX8_day 0 (by omega) hE0 (by decide) rfl (a_day l G ad h8 h9 (xs (6 * t + 1)) (xs (6 * t + 2))) ⟨by decide, by decide⟩ rfl (Nat.le_of_ble_eq_true rfl) ⟨(show 1000 + 9 * t ≤ 600000 by omega), (show 400000 + 3246 * t ≤ 7302250 by omega)⟩ (fun r3 E4 hq5 => ?_)
  obtain ⟨g1, h8, h9⟩ := hq5
  refine v_pop C dL_law_291 rfl ?_
  refine v_aload_n C 2 dL_law_292 rfl rfl ?_
  refine v_aload_n C 0 dL_law_293 rfl rfl ?_
  refine v_iload_n C 3 dL_law_294 rfl rfl ?_
  refine v_iconst (v := 1) C dL_law_295 (by decide) ?_
  refine v_iadd C dL_law_296 ?_
  refine v_top (fun x6 ex6 => ?_)
  have hx6 : x6.toInt = ((6 * (t : Int)) + 1) := by rw [ex6]; exact ti_add hx (show (1 : Int32).toInt = 1 by decide) (by omega) (by omega)
  refine v_sld (v := xs (6 * t + 1)) C hX hbl hbA dL_law_297 (ti_in hx6 (by omega) (by omega)) (by rw [ti_cl hx6, show Int.toNat ((6 * (t : Int)) + 1) = 6 * t + 1 by omega]) ?_
  refine v_aload_n C 0 dL_law_298 rfl rfl ?_
  refine v_iload_n C 3 dL_law_299 rfl rfl ?_
  refine v_iconst (v := 2) C dL_law_300 (by decide) ?_
  refine v_iadd C dL_law_301 ?_
  refine v_top (fun x7 ex7 => ?_)
  have hx7 : x7.toInt = ((6 * (t : Int)) + 2) := by rw [ex7]; exact ti_add hx (show (2 : Int32).toInt = 2 by decide) (by omega) (by omega)
  refine v_sld (v := xs (6 * t + 2)) C hX hbl hbA dL_law_302 (ti_in hx7 (by omega) (by omega)) (by rw [ti_cl hx7, show Int.toNat ((6 * (t : Int)) + 2) = 6 * t + 2 by omega]) ?_
  obtain ⟨im, hM, -⟩ := id h9.1.1
  refine v_cVi C dL_law_303 lL_30 mX9_day 68 (by omega) hM.2.2.1 (by decide) rfl (b_day l G ad h8 h9 (xs (6 * t + 1)) (xs (6 * t + 2))) ⟨by decide, by decide⟩ rfl (Nat.le_of_ble_eq_true rfl) ⟨(show 1000 + 9 * t ≤ 600000 by omega), (show 400000 + 3246 * t ≤ 7302250 by omega)⟩ (fun r8 E9 hq10 => ?_)
  obtain ⟨g2, h8, h9⟩ := hq10
  refine v_pop C dL_law_306 rfl ?_
  refine v_goto C 1288 dL_law_307 (by decide) ?_
  exact v_widen (by omega) (by omega) (kont _ _ _ _ _ _ _ _ h8 h9)
set_option maxRecDepth 20000 in
theorem lw_k4 {X : Mx} {l : Launch} {G : Gl} {A : Nat → Prop} (C : Cx X l G A "OddHoursLaw" code 4 ret room_1) {b L : Nat} {xs : Nat → Int32} (hX : va_X b L xs X.s X.s.heap) (hbl : b < X.s.heap.size) (hbA : ¬ A b) (hA : ∀ q, A q → X.s.heap.size ≤ q) (hlr : X.args = #[Value.ref b]) {t : Nat} {x : Int32} (hx : x.toInt = 6 * (t : Int)) (hL : 6 * t + 6 ≤ L) (hL0 : L ≤ 3072) (kont : ∀ (k : Nat) (ic md : Nat → Int32) (td kn : Int32) (fl : Nat → Int32) (ad : Nat → Nat) (E : Nat → va_E), C8 G ad k ic md td kn fl E → R9 G ad (98 + 9 * k) k ic md td kn fl E → V X G A 4 (lw_Z X.below #[Value.ref b] X.s) (98 + 9 * k) ad (1000 + 9 * (t + 1)) (400000 + 3246 * (t + 1)) E 1288 [(0, .ref b), (1, .ref (ad 0)), (2, .ref (ad 68)), (3, .int x)] []) {k : Nat} {ic md : Nat → Int32} {td kn : Int32} {fl : Nat → Int32} {ad : Nat → Nat} {E : Nat → va_E} (h8 : C8 G ad k ic md td kn fl E) (h9 : R9 G ad (98 + 9 * k) k ic md td kn fl E) : V X G A 4 (lw_Z X.below #[Value.ref b] X.s) (98 + 9 * k) ad (1000 + 9 * t) (400000 + 3246 * t) E 310 [(0, .ref b), (1, .ref (ad 0)), (2, .ref (ad 68)), (3, .int x)] [] := by
  refine v_aload_n C 1 dL_law_310 rfl rfl ?_
  refine v_aload_n C 0 dL_law_311 rfl rfl ?_
  refine v_iload_n C 3 dL_law_312 rfl rfl ?_
  refine v_iconst (v := 1) C dL_law_313 (by decide) ?_
  refine v_iadd C dL_law_314 ?_
  refine v_top (fun x1 ex1 => ?_)
  have hx1 : x1.toInt = ((6 * (t : Int)) + 1) := by rw [ex1]; exact ti_add hx (show (1 : Int32).toInt = 1 by decide) (by omega) (by omega)
  refine v_sld (v := xs (6 * t + 1)) C hX hbl hbA dL_law_315 (ti_in hx1 (by omega) (by omega)) (by rw [ti_cl hx1, show Int.toNat ((6 * (t : Int)) + 1) = 6 * t + 1 by omega]) ?_
  refine v_aload_n C 0 dL_law_316 rfl rfl ?_
  refine v_iload_n C 3 dL_law_317 rfl rfl ?_
  refine v_iconst (v := 2) C dL_law_318 (by decide) ?_
  refine v_iadd C dL_law_319 ?_
  refine v_top (fun x2 ex2 => ?_)
  have hx2 : x2.toInt = ((6 * (t : Int)) + 2) := by rw [ex2]; exact ti_add hx (show (2 : Int32).toInt = 2 by decide) (by omega) (by omega)
  refine v_sld (v := xs (6 * t + 2)) C hX hbl hbA dL_law_320 (ti_in hx2 (by omega) (by omega)) (by rw [ti_cl hx2, show Int.toNat ((6 * (t : Int)) + 2) = 6 * t + 2 by omega]) ?_
  obtain ⟨io, hE0, -, -⟩ := id h8.2.2.1
  refine v_cVi C dL_law_321 lL_31 mX8_date 0 (by omega) hE0 (by decide) rfl (a_date l G ad h8 h9 (xs (6 * t + 1)) (xs (6 * t + 2))) ⟨by decide, by decide⟩ rfl (Nat.le_of_ble_eq_true rfl) ⟨(show 1000 + 9 * t ≤ 600000 by omega), (show 400000 + 3246 * t ≤ 7302250 by omega)⟩ (fun r3 E4 hq5 => ?_)
  obtain ⟨g1, h8, h9⟩ := hq5
  refine v_pop C dL_law_324 rfl ?_
  refine v_aload_n C 2 dL_law_325 rfl rfl ?_
  refine v_aload_n C 0 dL_law_326 rfl rfl ?_
  refine v_iload_n C 3 dL_law_327 rfl rfl ?_
  refine v_iconst (v := 1) C dL_law_328 (by decide) ?_
  refine v_iadd C dL_law_329 ?_
  refine v_top (fun x6 ex6 => ?_)
  have hx6 : x6.toInt = ((6 * (t : Int)) + 1) := by rw [ex6]; exact ti_add hx (show (1 : Int32).toInt = 1 by decide) (by omega) (by omega)
  refine v_sld (v := xs (6 * t + 1)) C hX hbl hbA dL_law_330 (ti_in hx6 (by omega) (by omega)) (by rw [ti_cl hx6, show Int.toNat ((6 * (t : Int)) + 1) = 6 * t + 1 by omega]) ?_
  refine v_aload_n C 0 dL_law_331 rfl rfl ?_
  refine v_iload_n C 3 dL_law_332 rfl rfl ?_
  refine v_iconst (v := 2) C dL_law_333 (by decide) ?_
  refine v_iadd C dL_law_334 ?_
  refine v_top (fun x7 ex7 => ?_)
  have hx7 : x7.toInt = ((6 * (t : Int)) + 2) := by rw [ex7]; exact ti_add hx (show (2 : Int32).toInt = 2 by decide) (by omega) (by omega)
  refine v_sld (v := xs (6 * t + 2)) C hX hbl hbA dL_law_335 (ti_in hx7 (by omega) (by omega)) (by rw [ti_cl hx7, show Int.toNat ((6 * (t : Int)) + 2) = 6 * t + 2 by omega]) ?_
  obtain ⟨im, hM, -⟩ := id h9.1.1
  refine v_cVi C dL_law_336 lL_34 mX9_date 68 (by omega) hM.2.2.1 (by decide) rfl (b_date l G ad h8 h9 (xs (6 * t + 1)) (xs (6 * t + 2))) ⟨by decide, by decide⟩ rfl (Nat.le_of_ble_eq_true rfl) ⟨(show 1000 + 9 * t ≤ 600000 by omega), (show 400000 + 3246 * t ≤ 7302250 by omega)⟩ (fun r8 E9 hq10 => ?_)
  obtain ⟨g2, h8, h9⟩ := hq10
  refine v_pop C dL_law_339 rfl ?_
  refine v_goto C 1288 dL_law_340 (by decide) ?_
  exact v_widen (by omega) (by omega) (kont _ _ _ _ _ _ _ _ h8 h9)
set_option maxRecDepth 20000 in
theorem lw_k5 {X : Mx} {l : Launch} {G : Gl} {A : Nat → Prop} (C : Cx X l G A "OddHoursLaw" code 4 ret room_1) {b L : Nat} {xs : Nat → Int32} (hX : va_X b L xs X.s X.s.heap) (hbl : b < X.s.heap.size) (hbA : ¬ A b) (hA : ∀ q, A q → X.s.heap.size ≤ q) (hlr : X.args = #[Value.ref b]) {t : Nat} {x : Int32} (hx : x.toInt = 6 * (t : Int)) (hL : 6 * t + 6 ≤ L) (hL0 : L ≤ 3072) (kont : ∀ (k : Nat) (ic md : Nat → Int32) (td kn : Int32) (fl : Nat → Int32) (ad : Nat → Nat) (E : Nat → va_E), C8 G ad k ic md td kn fl E → R9 G ad (98 + 9 * k) k ic md td kn fl E → V X G A 4 (lw_Z X.below #[Value.ref b] X.s) (98 + 9 * k) ad (1000 + 9 * (t + 1)) (400000 + 3246 * (t + 1)) E 1288 [(0, .ref b), (1, .ref (ad 0)), (2, .ref (ad 68)), (3, .int x)] []) {k : Nat} {ic md : Nat → Int32} {td kn : Int32} {fl : Nat → Int32} {ad : Nat → Nat} {E : Nat → va_E} (h8 : C8 G ad k ic md td kn fl E) (h9 : R9 G ad (98 + 9 * k) k ic md td kn fl E) : V X G A 4 (lw_Z X.below #[Value.ref b] X.s) (98 + 9 * k) ad (1000 + 9 * t) (400000 + 3246 * t) E 343 [(0, .ref b), (1, .ref (ad 0)), (2, .ref (ad 68)), (3, .int x)] [] := by
  refine v_aload_n C 1 dL_law_343 rfl rfl ?_
  refine v_aload_n C 0 dL_law_344 rfl rfl ?_
  refine v_iload_n C 3 dL_law_345 rfl rfl ?_
  refine v_iconst (v := 1) C dL_law_346 (by decide) ?_
  refine v_iadd C dL_law_347 ?_
  refine v_top (fun x1 ex1 => ?_)
  have hx1 : x1.toInt = ((6 * (t : Int)) + 1) := by rw [ex1]; exact ti_add hx (show (1 : Int32).toInt = 1 by decide) (by omega) (by omega)
  refine v_sld (v := xs (6 * t + 1)) C hX hbl hbA dL_law_348 (ti_in hx1 (by omega) (by omega)) (by rw [ti_cl hx1, show Int.toNat ((6 * (t : Int)) + 1) = 6 * t + 1 by omega]) ?_
  refine v_aload_n C 0 dL_law_349 rfl rfl ?_
  refine v_iload_n C 3 dL_law_350 rfl rfl ?_
  refine v_iconst (v := 2) C dL_law_351 (by decide) ?_
  refine v_iadd C dL_law_352 ?_
  refine v_top (fun x2 ex2 => ?_)
  have hx2 : x2.toInt = ((6 * (t : Int)) + 2) := by rw [ex2]; exact ti_add hx (show (2 : Int32).toInt = 2 by decide) (by omega) (by omega)
  refine v_sld (v := xs (6 * t + 2)) C hX hbl hbA dL_law_353 (ti_in hx2 (by omega) (by omega)) (by rw [ti_cl hx2, show Int.toNat ((6 * (t : Int)) + 2) = 6 * t + 2 by omega]) ?_
  refine v_aload_n C 0 dL_law_354 rfl rfl ?_
  refine v_iload_n C 3 dL_law_355 rfl rfl ?_
  refine v_iconst (v := 3) C dL_law_356 (by decide) ?_
  refine v_iadd C dL_law_357 ?_
  refine v_top (fun x3 ex3 => ?_)
  have hx3 : x3.toInt = ((6 * (t : Int)) + 3) := by rw [ex3]; exact ti_add hx (show (3 : Int32).toInt = 3 by decide) (by omega) (by omega)
  refine v_sld (v := xs (6 * t + 3)) C hX hbl hbA dL_law_358 (ti_in hx3 (by omega) (by omega)) (by rw [ti_cl hx3, show Int.toNat ((6 * (t : Int)) + 3) = 6 * t + 3 by omega]) ?_
  obtain ⟨io, hE0, -, -⟩ := id h8.2.2.1
  refine v_cVi C dL_law_359 lL_35 mX8_months 0 (by omega) hE0 (by decide) rfl (a_months l G ad h8 h9 (xs (6 * t + 1)) (xs (6 * t + 2)) (xs (6 * t + 3))) ⟨by decide, by decide⟩ rfl (Nat.le_of_ble_eq_true rfl) ⟨(show 1000 + 9 * t ≤ 600000 by omega), (show 400000 + 3246 * t ≤ 7302250 by omega)⟩ (fun r4 E5 hq6 => ?_)
  obtain ⟨g1, h8, h9⟩ := hq6
  refine v_pop C dL_law_362 rfl ?_
  refine v_aload_n C 2 dL_law_363 rfl rfl ?_
  refine v_aload_n C 0 dL_law_364 rfl rfl ?_
  refine v_iload_n C 3 dL_law_365 rfl rfl ?_
  refine v_iconst (v := 1) C dL_law_366 (by decide) ?_
  refine v_iadd C dL_law_367 ?_
  refine v_top (fun x7 ex7 => ?_)
  have hx7 : x7.toInt = ((6 * (t : Int)) + 1) := by rw [ex7]; exact ti_add hx (show (1 : Int32).toInt = 1 by decide) (by omega) (by omega)
  refine v_sld (v := xs (6 * t + 1)) C hX hbl hbA dL_law_368 (ti_in hx7 (by omega) (by omega)) (by rw [ti_cl hx7, show Int.toNat ((6 * (t : Int)) + 1) = 6 * t + 1 by omega]) ?_
  refine v_aload_n C 0 dL_law_369 rfl rfl ?_
  refine v_iload_n C 3 dL_law_370 rfl rfl ?_
  refine v_iconst (v := 2) C dL_law_371 (by decide) ?_
  refine v_iadd C dL_law_372 ?_
  refine v_top (fun x8 ex8 => ?_)
  have hx8 : x8.toInt = ((6 * (t : Int)) + 2) := by rw [ex8]; exact ti_add hx (show (2 : Int32).toInt = 2 by decide) (by omega) (by omega)
  refine v_sld (v := xs (6 * t + 2)) C hX hbl hbA dL_law_373 (ti_in hx8 (by omega) (by omega)) (by rw [ti_cl hx8, show Int.toNat ((6 * (t : Int)) + 2) = 6 * t + 2 by omega]) ?_
  refine v_aload_n C 0 dL_law_374 rfl rfl ?_
  refine v_iload_n C 3 dL_law_375 rfl rfl ?_
  refine v_iconst (v := 3) C dL_law_376 (by decide) ?_
  refine v_iadd C dL_law_377 ?_
  refine v_top (fun x9 ex9 => ?_)
  have hx9 : x9.toInt = ((6 * (t : Int)) + 3) := by rw [ex9]; exact ti_add hx (show (3 : Int32).toInt = 3 by decide) (by omega) (by omega)
  refine v_sld (v := xs (6 * t + 3)) C hX hbl hbA dL_law_378 (ti_in hx9 (by omega) (by omega)) (by rw [ti_cl hx9, show Int.toNat ((6 * (t : Int)) + 3) = 6 * t + 3 by omega]) ?_
  obtain ⟨im, hM, -⟩ := id h9.1.1
  refine v_cVi C dL_law_379 lL_38 mX9_months 68 (by omega) hM.2.2.1 (by decide) rfl (b_months l G ad h8 h9 (xs (6 * t + 1)) (xs (6 * t + 2)) (xs (6 * t + 3))) ⟨by decide, by decide⟩ rfl (Nat.le_of_ble_eq_true rfl) ⟨(show 1000 + 9 * t ≤ 600000 by omega), (show 400000 + 3246 * t ≤ 7302250 by omega)⟩ (fun r10 E11 hq12 => ?_)
  obtain ⟨g2, h8, h9⟩ := hq12
  refine v_pop C dL_law_382 rfl ?_
  refine v_goto C 1288 dL_law_383 (by decide) ?_
  exact v_widen (by omega) (by omega) (kont _ _ _ _ _ _ _ _ h8 h9)
set_option maxRecDepth 20000 in
theorem lw_k6 {X : Mx} {l : Launch} {G : Gl} {A : Nat → Prop} (C : Cx X l G A "OddHoursLaw" code 4 ret room_1) {b L : Nat} {xs : Nat → Int32} (hX : va_X b L xs X.s X.s.heap) (hbl : b < X.s.heap.size) (hbA : ¬ A b) (hA : ∀ q, A q → X.s.heap.size ≤ q) (hlr : X.args = #[Value.ref b]) {t : Nat} {x : Int32} (hx : x.toInt = 6 * (t : Int)) (hL : 6 * t + 6 ≤ L) (hL0 : L ≤ 3072) (kont : ∀ (k : Nat) (ic md : Nat → Int32) (td kn : Int32) (fl : Nat → Int32) (ad : Nat → Nat) (E : Nat → va_E), C8 G ad k ic md td kn fl E → R9 G ad (98 + 9 * k) k ic md td kn fl E → V X G A 4 (lw_Z X.below #[Value.ref b] X.s) (98 + 9 * k) ad (1000 + 9 * (t + 1)) (400000 + 3246 * (t + 1)) E 1288 [(0, .ref b), (1, .ref (ad 0)), (2, .ref (ad 68)), (3, .int x)] []) {k : Nat} {ic md : Nat → Int32} {td kn : Int32} {fl : Nat → Int32} {ad : Nat → Nat} {E : Nat → va_E} (h8 : C8 G ad k ic md td kn fl E) (h9 : R9 G ad (98 + 9 * k) k ic md td kn fl E) : V X G A 4 (lw_Z X.below #[Value.ref b] X.s) (98 + 9 * k) ad (1000 + 9 * t) (400000 + 3246 * t) E 386 [(0, .ref b), (1, .ref (ad 0)), (2, .ref (ad 68)), (3, .int x)] [] := by
  refine v_aload_n C 1 dL_law_386 rfl rfl ?_
  refine v_aload_n C 0 dL_law_387 rfl rfl ?_
  refine v_iload_n C 3 dL_law_388 rfl rfl ?_
  refine v_iconst (v := 1) C dL_law_389 (by decide) ?_
  refine v_iadd C dL_law_390 ?_
  refine v_top (fun x1 ex1 => ?_)
  have hx1 : x1.toInt = ((6 * (t : Int)) + 1) := by rw [ex1]; exact ti_add hx (show (1 : Int32).toInt = 1 by decide) (by omega) (by omega)
  refine v_sld (v := xs (6 * t + 1)) C hX hbl hbA dL_law_391 (ti_in hx1 (by omega) (by omega)) (by rw [ti_cl hx1, show Int.toNat ((6 * (t : Int)) + 1) = 6 * t + 1 by omega]) ?_
  refine v_aload_n C 0 dL_law_392 rfl rfl ?_
  refine v_iload_n C 3 dL_law_393 rfl rfl ?_
  refine v_iconst (v := 2) C dL_law_394 (by decide) ?_
  refine v_iadd C dL_law_395 ?_
  refine v_top (fun x2 ex2 => ?_)
  have hx2 : x2.toInt = ((6 * (t : Int)) + 2) := by rw [ex2]; exact ti_add hx (show (2 : Int32).toInt = 2 by decide) (by omega) (by omega)
  refine v_sld (v := xs (6 * t + 2)) C hX hbl hbA dL_law_396 (ti_in hx2 (by omega) (by omega)) (by rw [ti_cl hx2, show Int.toNat ((6 * (t : Int)) + 2) = 6 * t + 2 by omega]) ?_
  refine v_aload_n C 0 dL_law_397 rfl rfl ?_
  refine v_iload_n C 3 dL_law_398 rfl rfl ?_
  refine v_iconst (v := 3) C dL_law_399 (by decide) ?_
  refine v_iadd C dL_law_400 ?_
  refine v_top (fun x3 ex3 => ?_)
  have hx3 : x3.toInt = ((6 * (t : Int)) + 3) := by rw [ex3]; exact ti_add hx (show (3 : Int32).toInt = 3 by decide) (by omega) (by omega)
  refine v_sld (v := xs (6 * t + 3)) C hX hbl hbA dL_law_401 (ti_in hx3 (by omega) (by omega)) (by rw [ti_cl hx3, show Int.toNat ((6 * (t : Int)) + 3) = 6 * t + 3 by omega]) ?_
  obtain ⟨io, hE0, -, -⟩ := id h8.2.2.1
  refine v_cVi C dL_law_402 lL_39 mX8_nth 0 (by omega) hE0 (by decide) rfl (a_nth l G ad h8 h9 (xs (6 * t + 1)) (xs (6 * t + 2)) (xs (6 * t + 3))) ⟨by decide, by decide⟩ rfl (Nat.le_of_ble_eq_true rfl) ⟨(show 1000 + 9 * t ≤ 600000 by omega), (show 400000 + 3246 * t ≤ 7302250 by omega)⟩ (fun r4 E5 hq6 => ?_)
  obtain ⟨g1, h8, h9⟩ := hq6
  refine v_pop C dL_law_405 rfl ?_
  refine v_aload_n C 2 dL_law_406 rfl rfl ?_
  refine v_aload_n C 0 dL_law_407 rfl rfl ?_
  refine v_iload_n C 3 dL_law_408 rfl rfl ?_
  refine v_iconst (v := 1) C dL_law_409 (by decide) ?_
  refine v_iadd C dL_law_410 ?_
  refine v_top (fun x7 ex7 => ?_)
  have hx7 : x7.toInt = ((6 * (t : Int)) + 1) := by rw [ex7]; exact ti_add hx (show (1 : Int32).toInt = 1 by decide) (by omega) (by omega)
  refine v_sld (v := xs (6 * t + 1)) C hX hbl hbA dL_law_411 (ti_in hx7 (by omega) (by omega)) (by rw [ti_cl hx7, show Int.toNat ((6 * (t : Int)) + 1) = 6 * t + 1 by omega]) ?_
  refine v_aload_n C 0 dL_law_412 rfl rfl ?_
  refine v_iload_n C 3 dL_law_413 rfl rfl ?_
  refine v_iconst (v := 2) C dL_law_414 (by decide) ?_
  refine v_iadd C dL_law_415 ?_
  refine v_top (fun x8 ex8 => ?_)
  have hx8 : x8.toInt = ((6 * (t : Int)) + 2) := by rw [ex8]; exact ti_add hx (show (2 : Int32).toInt = 2 by decide) (by omega) (by omega)
  refine v_sld (v := xs (6 * t + 2)) C hX hbl hbA dL_law_416 (ti_in hx8 (by omega) (by omega)) (by rw [ti_cl hx8, show Int.toNat ((6 * (t : Int)) + 2) = 6 * t + 2 by omega]) ?_
  refine v_aload_n C 0 dL_law_417 rfl rfl ?_
  refine v_iload_n C 3 dL_law_418 rfl rfl ?_
  refine v_iconst (v := 3) C dL_law_419 (by decide) ?_
  refine v_iadd C dL_law_420 ?_
  refine v_top (fun x9 ex9 => ?_)
  have hx9 : x9.toInt = ((6 * (t : Int)) + 3) := by rw [ex9]; exact ti_add hx (show (3 : Int32).toInt = 3 by decide) (by omega) (by omega)
  refine v_sld (v := xs (6 * t + 3)) C hX hbl hbA dL_law_421 (ti_in hx9 (by omega) (by omega)) (by rw [ti_cl hx9, show Int.toNat ((6 * (t : Int)) + 3) = 6 * t + 3 by omega]) ?_
  obtain ⟨im, hM, -⟩ := id h9.1.1
  refine v_cVi C dL_law_422 lL_42 mX9_nth 68 (by omega) hM.2.2.1 (by decide) rfl (b_nth l G ad h8 h9 (xs (6 * t + 1)) (xs (6 * t + 2)) (xs (6 * t + 3))) ⟨by decide, by decide⟩ rfl (Nat.le_of_ble_eq_true rfl) ⟨(show 1000 + 9 * t ≤ 600000 by omega), (show 400000 + 3246 * t ≤ 7302250 by omega)⟩ (fun r10 E11 hq12 => ?_)
  obtain ⟨g2, h8, h9⟩ := hq12
  refine v_pop C dL_law_425 rfl ?_
  refine v_goto C 1288 dL_law_426 (by decide) ?_
  exact v_widen (by omega) (by omega) (kont _ _ _ _ _ _ _ _ h8 h9)
set_option maxRecDepth 20000 in
theorem lw_k7 {X : Mx} {l : Launch} {G : Gl} {A : Nat → Prop} (C : Cx X l G A "OddHoursLaw" code 4 ret room_1) {b L : Nat} {xs : Nat → Int32} (hX : va_X b L xs X.s X.s.heap) (hbl : b < X.s.heap.size) (hbA : ¬ A b) (hA : ∀ q, A q → X.s.heap.size ≤ q) (hlr : X.args = #[Value.ref b]) {t : Nat} {x : Int32} (hx : x.toInt = 6 * (t : Int)) (hL : 6 * t + 6 ≤ L) (hL0 : L ≤ 3072) (kont : ∀ (k : Nat) (ic md : Nat → Int32) (td kn : Int32) (fl : Nat → Int32) (ad : Nat → Nat) (E : Nat → va_E), C8 G ad k ic md td kn fl E → R9 G ad (98 + 9 * k) k ic md td kn fl E → V X G A 4 (lw_Z X.below #[Value.ref b] X.s) (98 + 9 * k) ad (1000 + 9 * (t + 1)) (400000 + 3246 * (t + 1)) E 1288 [(0, .ref b), (1, .ref (ad 0)), (2, .ref (ad 68)), (3, .int x)] []) {k : Nat} {ic md : Nat → Int32} {td kn : Int32} {fl : Nat → Int32} {ad : Nat → Nat} {E : Nat → va_E} (h8 : C8 G ad k ic md td kn fl E) (h9 : R9 G ad (98 + 9 * k) k ic md td kn fl E) : V X G A 4 (lw_Z X.below #[Value.ref b] X.s) (98 + 9 * k) ad (1000 + 9 * t) (400000 + 3246 * t) E 429 [(0, .ref b), (1, .ref (ad 0)), (2, .ref (ad 68)), (3, .int x)] [] := by
  refine v_aload_n C 1 dL_law_429 rfl rfl ?_
  refine v_aload_n C 0 dL_law_430 rfl rfl ?_
  refine v_iload_n C 3 dL_law_431 rfl rfl ?_
  refine v_iconst (v := 1) C dL_law_432 (by decide) ?_
  refine v_iadd C dL_law_433 ?_
  refine v_top (fun x1 ex1 => ?_)
  have hx1 : x1.toInt = ((6 * (t : Int)) + 1) := by rw [ex1]; exact ti_add hx (show (1 : Int32).toInt = 1 by decide) (by omega) (by omega)
  refine v_sld (v := xs (6 * t + 1)) C hX hbl hbA dL_law_434 (ti_in hx1 (by omega) (by omega)) (by rw [ti_cl hx1, show Int.toNat ((6 * (t : Int)) + 1) = 6 * t + 1 by omega]) ?_
  obtain ⟨io, hE0, -, -⟩ := id h8.2.2.1
  refine v_cVz C dL_law_435 lL_43 mX8_zone 0 (by omega) hE0 (by decide) rfl (a_zone l G ad h8 h9 (xs (6 * t + 1))) ⟨by decide, by decide⟩ rfl (Nat.le_of_ble_eq_true rfl) ⟨(show 1000 + 9 * t + 9 ≤ 600000 by omega), (show 400000 + 3246 * t + 3246 ≤ 7302250 by omega)⟩ (fun r2 n6 ad5 E3 hq4 => ?_)
  obtain ⟨g1, hn1, hA1, h8, h9⟩ := hq4
  dsimp only at hn1 hA1 h8 h9
  subst hn1
  have aad5_0 := hA1 0 (by decide)
  have aad5_68 := hA1 68 (by decide)
  refine v_cast (lv' := [(0, .ref b), (1, .ref (ad5 0)), (2, .ref (ad5 68)), (3, .int x)]) (st' := [.int r2]) (by rw [aad5_0, aad5_68]) (rfl) ?_
  refine v_pop C dL_law_438 rfl ?_
  refine v_aload_n C 2 dL_law_439 rfl rfl ?_
  refine v_aload_n C 0 dL_law_440 rfl rfl ?_
  refine v_iload_n C 3 dL_law_441 rfl rfl ?_
  refine v_iconst (v := 1) C dL_law_442 (by decide) ?_
  refine v_iadd C dL_law_443 ?_
  refine v_top (fun x7 ex7 => ?_)
  have hx7 : x7.toInt = ((6 * (t : Int)) + 1) := by rw [ex7]; exact ti_add hx (show (1 : Int32).toInt = 1 by decide) (by omega) (by omega)
  refine v_sld (v := xs (6 * t + 1)) C hX hbl hbA dL_law_444 (ti_in hx7 (by omega) (by omega)) (by rw [ti_cl hx7, show Int.toNat ((6 * (t : Int)) + 1) = 6 * t + 1 by omega]) ?_
  obtain ⟨im, hM, -⟩ := id h9.1.1
  refine v_cVi C dL_law_445 lL_47 mX9_zone 68 (by omega) hM.2.2.1 (by decide) rfl (b_zone l G ad5 h8 h9 (xs (6 * t + 1))) ⟨by decide, by decide⟩ rfl (Nat.le_of_ble_eq_true rfl) ⟨(show 1000 + 9 * t + 9 ≤ 600000 by omega), (show 400000 + 3246 * t + 3246 ≤ 7302250 by omega)⟩ (fun r8 E9 hq10 => ?_)
  obtain ⟨g2, h8, h9⟩ := hq10
  refine v_pop C dL_law_448 rfl ?_
  refine v_goto C 1288 dL_law_449 (by decide) ?_
  exact v_widen (by omega) (by omega) (kont _ _ _ _ _ _ _ _ h8 h9)
set_option maxRecDepth 20000 in
theorem lw_k8 {X : Mx} {l : Launch} {G : Gl} {A : Nat → Prop} (C : Cx X l G A "OddHoursLaw" code 4 ret room_1) {b L : Nat} {xs : Nat → Int32} (hX : va_X b L xs X.s X.s.heap) (hbl : b < X.s.heap.size) (hbA : ¬ A b) (hA : ∀ q, A q → X.s.heap.size ≤ q) (hlr : X.args = #[Value.ref b]) {t : Nat} {x : Int32} (hx : x.toInt = 6 * (t : Int)) (hL : 6 * t + 6 ≤ L) (hL0 : L ≤ 3072) (kont : ∀ (k : Nat) (ic md : Nat → Int32) (td kn : Int32) (fl : Nat → Int32) (ad : Nat → Nat) (E : Nat → va_E), C8 G ad k ic md td kn fl E → R9 G ad (98 + 9 * k) k ic md td kn fl E → V X G A 4 (lw_Z X.below #[Value.ref b] X.s) (98 + 9 * k) ad (1000 + 9 * (t + 1)) (400000 + 3246 * (t + 1)) E 1288 [(0, .ref b), (1, .ref (ad 0)), (2, .ref (ad 68)), (3, .int x)] []) {k : Nat} {ic md : Nat → Int32} {td kn : Int32} {fl : Nat → Int32} {ad : Nat → Nat} {E : Nat → va_E} (h8 : C8 G ad k ic md td kn fl E) (h9 : R9 G ad (98 + 9 * k) k ic md td kn fl E) : V X G A 4 (lw_Z X.below #[Value.ref b] X.s) (98 + 9 * k) ad (1000 + 9 * t) (400000 + 3246 * t) E 452 [(0, .ref b), (1, .ref (ad 0)), (2, .ref (ad 68)), (3, .int x)] [] := by
  refine v_aload_n C 1 dL_law_452 rfl rfl ?_
  refine v_aload_n C 0 dL_law_453 rfl rfl ?_
  refine v_iload_n C 3 dL_law_454 rfl rfl ?_
  refine v_iconst (v := 1) C dL_law_455 (by decide) ?_
  refine v_iadd C dL_law_456 ?_
  refine v_top (fun x1 ex1 => ?_)
  have hx1 : x1.toInt = ((6 * (t : Int)) + 1) := by rw [ex1]; exact ti_add hx (show (1 : Int32).toInt = 1 by decide) (by omega) (by omega)
  refine v_sld (v := xs (6 * t + 1)) C hX hbl hbA dL_law_457 (ti_in hx1 (by omega) (by omega)) (by rw [ti_cl hx1, show Int.toNat ((6 * (t : Int)) + 1) = 6 * t + 1 by omega]) ?_
  refine v_aload_n C 0 dL_law_458 rfl rfl ?_
  refine v_iload_n C 3 dL_law_459 rfl rfl ?_
  refine v_iconst (v := 2) C dL_law_460 (by decide) ?_
  refine v_iadd C dL_law_461 ?_
  refine v_top (fun x2 ex2 => ?_)
  have hx2 : x2.toInt = ((6 * (t : Int)) + 2) := by rw [ex2]; exact ti_add hx (show (2 : Int32).toInt = 2 by decide) (by omega) (by omega)
  refine v_sld (v := xs (6 * t + 2)) C hX hbl hbA dL_law_462 (ti_in hx2 (by omega) (by omega)) (by rw [ti_cl hx2, show Int.toNat ((6 * (t : Int)) + 2) = 6 * t + 2 by omega]) ?_
  refine v_aload_n C 0 dL_law_463 rfl rfl ?_
  refine v_iload_n C 3 dL_law_464 rfl rfl ?_
  refine v_iconst (v := 3) C dL_law_465 (by decide) ?_
  refine v_iadd C dL_law_466 ?_
  refine v_top (fun x3 ex3 => ?_)
  have hx3 : x3.toInt = ((6 * (t : Int)) + 3) := by rw [ex3]; exact ti_add hx (show (3 : Int32).toInt = 3 by decide) (by omega) (by omega)
  refine v_sld (v := xs (6 * t + 3)) C hX hbl hbA dL_law_467 (ti_in hx3 (by omega) (by omega)) (by rw [ti_cl hx3, show Int.toNat ((6 * (t : Int)) + 3) = 6 * t + 3 by omega]) ?_
  refine v_aload_n C 0 dL_law_468 rfl rfl ?_
  refine v_iload_n C 3 dL_law_469 rfl rfl ?_
  refine v_iconst (v := 4) C dL_law_470 (by decide) ?_
  refine v_iadd C dL_law_471 ?_
  refine v_top (fun x4 ex4 => ?_)
  have hx4 : x4.toInt = ((6 * (t : Int)) + 4) := by rw [ex4]; exact ti_add hx (show (4 : Int32).toInt = 4 by decide) (by omega) (by omega)
  refine v_sld (v := xs (6 * t + 4)) C hX hbl hbA dL_law_472 (ti_in hx4 (by omega) (by omega)) (by rw [ti_cl hx4, show Int.toNat ((6 * (t : Int)) + 4) = 6 * t + 4 by omega]) ?_
  refine v_aload_n C 0 dL_law_473 rfl rfl ?_
  refine v_iload_n C 3 dL_law_474 rfl rfl ?_
  refine v_iconst (v := 5) C dL_law_475 (by decide) ?_
  refine v_iadd C dL_law_476 ?_
  refine v_top (fun x5 ex5 => ?_)
  have hx5 : x5.toInt = ((6 * (t : Int)) + 5) := by rw [ex5]; exact ti_add hx (show (5 : Int32).toInt = 5 by decide) (by omega) (by omega)
  refine v_sld (v := xs (6 * t + 5)) C hX hbl hbA dL_law_477 (ti_in hx5 (by omega) (by omega)) (by rw [ti_cl hx5, show Int.toNat ((6 * (t : Int)) + 5) = 6 * t + 5 by omega]) ?_
  obtain ⟨io, hE0, -, -⟩ := id h8.2.2.1
  refine v_cVi C dL_law_478 lL_48 mX8_rule 0 (by omega) hE0 (by decide) rfl (a_rule l G ad h8 h9 (xs (6 * t + 1)) (xs (6 * t + 2)) (xs (6 * t + 3)) (xs (6 * t + 4)) (xs (6 * t + 5))) ⟨by decide, by decide⟩ rfl (Nat.le_of_ble_eq_true rfl) ⟨(show 1000 + 9 * t ≤ 600000 by omega), (show 400000 + 3246 * t ≤ 7302250 by omega)⟩ (fun r6 E7 hq8 => ?_)
  obtain ⟨h8, h9⟩ := hq8
  refine v_pop C dL_law_481 rfl ?_
  refine v_aload_n C 2 dL_law_482 rfl rfl ?_
  refine v_aload_n C 0 dL_law_483 rfl rfl ?_
  refine v_iload_n C 3 dL_law_484 rfl rfl ?_
  refine v_iconst (v := 1) C dL_law_485 (by decide) ?_
  refine v_iadd C dL_law_486 ?_
  refine v_top (fun x9 ex9 => ?_)
  have hx9 : x9.toInt = ((6 * (t : Int)) + 1) := by rw [ex9]; exact ti_add hx (show (1 : Int32).toInt = 1 by decide) (by omega) (by omega)
  refine v_sld (v := xs (6 * t + 1)) C hX hbl hbA dL_law_487 (ti_in hx9 (by omega) (by omega)) (by rw [ti_cl hx9, show Int.toNat ((6 * (t : Int)) + 1) = 6 * t + 1 by omega]) ?_
  refine v_aload_n C 0 dL_law_488 rfl rfl ?_
  refine v_iload_n C 3 dL_law_489 rfl rfl ?_
  refine v_iconst (v := 2) C dL_law_490 (by decide) ?_
  refine v_iadd C dL_law_491 ?_
  refine v_top (fun x10 ex10 => ?_)
  have hx10 : x10.toInt = ((6 * (t : Int)) + 2) := by rw [ex10]; exact ti_add hx (show (2 : Int32).toInt = 2 by decide) (by omega) (by omega)
  refine v_sld (v := xs (6 * t + 2)) C hX hbl hbA dL_law_492 (ti_in hx10 (by omega) (by omega)) (by rw [ti_cl hx10, show Int.toNat ((6 * (t : Int)) + 2) = 6 * t + 2 by omega]) ?_
  refine v_aload_n C 0 dL_law_493 rfl rfl ?_
  refine v_iload_n C 3 dL_law_494 rfl rfl ?_
  refine v_iconst (v := 3) C dL_law_495 (by decide) ?_
  refine v_iadd C dL_law_496 ?_
  refine v_top (fun x11 ex11 => ?_)
  have hx11 : x11.toInt = ((6 * (t : Int)) + 3) := by rw [ex11]; exact ti_add hx (show (3 : Int32).toInt = 3 by decide) (by omega) (by omega)
  refine v_sld (v := xs (6 * t + 3)) C hX hbl hbA dL_law_497 (ti_in hx11 (by omega) (by omega)) (by rw [ti_cl hx11, show Int.toNat ((6 * (t : Int)) + 3) = 6 * t + 3 by omega]) ?_
  refine v_aload_n C 0 dL_law_498 rfl rfl ?_
  refine v_iload_n C 3 dL_law_499 rfl rfl ?_
  refine v_iconst (v := 4) C dL_law_500 (by decide) ?_
  refine v_iadd C dL_law_501 ?_
  refine v_top (fun x12 ex12 => ?_)
  have hx12 : x12.toInt = ((6 * (t : Int)) + 4) := by rw [ex12]; exact ti_add hx (show (4 : Int32).toInt = 4 by decide) (by omega) (by omega)
  refine v_sld (v := xs (6 * t + 4)) C hX hbl hbA dL_law_502 (ti_in hx12 (by omega) (by omega)) (by rw [ti_cl hx12, show Int.toNat ((6 * (t : Int)) + 4) = 6 * t + 4 by omega]) ?_
  refine v_aload_n C 0 dL_law_503 rfl rfl ?_
  refine v_iload_n C 3 dL_law_504 rfl rfl ?_
  refine v_iconst (v := 5) C dL_law_505 (by decide) ?_
  refine v_iadd C dL_law_506 ?_
  refine v_top (fun x13 ex13 => ?_)
  have hx13 : x13.toInt = ((6 * (t : Int)) + 5) := by rw [ex13]; exact ti_add hx (show (5 : Int32).toInt = 5 by decide) (by omega) (by omega)
  refine v_sld (v := xs (6 * t + 5)) C hX hbl hbA dL_law_507 (ti_in hx13 (by omega) (by omega)) (by rw [ti_cl hx13, show Int.toNat ((6 * (t : Int)) + 5) = 6 * t + 5 by omega]) ?_
  obtain ⟨im, hM, -⟩ := id h9.1.1
  refine v_cVi C dL_law_508 lL_52 mX9_rule 68 (by omega) hM.2.2.1 (by decide) rfl (b_rule l G ad h8 h9 (xs (6 * t + 1)) (xs (6 * t + 2)) (xs (6 * t + 3)) (xs (6 * t + 4)) (xs (6 * t + 5))) ⟨by decide, by decide⟩ rfl (Nat.le_of_ble_eq_true rfl) ⟨(show 1000 + 9 * t ≤ 600000 by omega), (show 400000 + 3246 * t ≤ 7302250 by omega)⟩ (fun r14 E15 hq16 => ?_)
  obtain ⟨h8, h9⟩ := hq16
  refine v_pop C dL_law_511 rfl ?_
  refine v_goto C 1288 dL_law_512 (by decide) ?_
  exact v_widen (by omega) (by omega) (kont _ _ _ _ _ _ _ _ h8 h9)
set_option maxRecDepth 20000 in
theorem lw_k9 {X : Mx} {l : Launch} {G : Gl} {A : Nat → Prop} (C : Cx X l G A "OddHoursLaw" code 4 ret room_1) {b L : Nat} {xs : Nat → Int32} (hX : va_X b L xs X.s X.s.heap) (hbl : b < X.s.heap.size) (hbA : ¬ A b) (hA : ∀ q, A q → X.s.heap.size ≤ q) (hlr : X.args = #[Value.ref b]) {t : Nat} {x : Int32} (hx : x.toInt = 6 * (t : Int)) (hL : 6 * t + 6 ≤ L) (hL0 : L ≤ 3072) (kont : ∀ (k : Nat) (ic md : Nat → Int32) (td kn : Int32) (fl : Nat → Int32) (ad : Nat → Nat) (E : Nat → va_E), C8 G ad k ic md td kn fl E → R9 G ad (98 + 9 * k) k ic md td kn fl E → V X G A 4 (lw_Z X.below #[Value.ref b] X.s) (98 + 9 * k) ad (1000 + 9 * (t + 1)) (400000 + 3246 * (t + 1)) E 1288 [(0, .ref b), (1, .ref (ad 0)), (2, .ref (ad 68)), (3, .int x)] []) {k : Nat} {ic md : Nat → Int32} {td kn : Int32} {fl : Nat → Int32} {ad : Nat → Nat} {E : Nat → va_E} (h8 : C8 G ad k ic md td kn fl E) (h9 : R9 G ad (98 + 9 * k) k ic md td kn fl E) : V X G A 4 (lw_Z X.below #[Value.ref b] X.s) (98 + 9 * k) ad (1000 + 9 * t) (400000 + 3246 * t) E 515 [(0, .ref b), (1, .ref (ad 0)), (2, .ref (ad 68)), (3, .int x)] [] := by
  refine v_aload_n C 1 dL_law_515 rfl rfl ?_
  refine v_aload_n C 0 dL_law_516 rfl rfl ?_
  refine v_iload_n C 3 dL_law_517 rfl rfl ?_
  refine v_iconst (v := 1) C dL_law_518 (by decide) ?_
  refine v_iadd C dL_law_519 ?_
  refine v_top (fun x1 ex1 => ?_)
  have hx1 : x1.toInt = ((6 * (t : Int)) + 1) := by rw [ex1]; exact ti_add hx (show (1 : Int32).toInt = 1 by decide) (by omega) (by omega)
  refine v_sld (v := xs (6 * t + 1)) C hX hbl hbA dL_law_520 (ti_in hx1 (by omega) (by omega)) (by rw [ti_cl hx1, show Int.toNat ((6 * (t : Int)) + 1) = 6 * t + 1 by omega]) ?_
  obtain ⟨io, hE0, -, -⟩ := id h8.2.2.1
  refine v_cVi C dL_law_521 lL_53 mX8_today 0 (by omega) hE0 (by decide) rfl (a_today l G ad h8 h9 (xs (6 * t + 1))) ⟨by decide, by decide⟩ rfl (Nat.le_of_ble_eq_true rfl) ⟨(show 1000 + 9 * t ≤ 600000 by omega), (show 400000 + 3246 * t ≤ 7302250 by omega)⟩ (fun r2 E3 hq4 => ?_)
  obtain ⟨g1, h8, h9⟩ := hq4
  refine v_pop C dL_law_524 rfl ?_
  refine v_aload_n C 2 dL_law_525 rfl rfl ?_
  refine v_aload_n C 0 dL_law_526 rfl rfl ?_
  refine v_iload_n C 3 dL_law_527 rfl rfl ?_
  refine v_iconst (v := 1) C dL_law_528 (by decide) ?_
  refine v_iadd C dL_law_529 ?_
  refine v_top (fun x5 ex5 => ?_)
  have hx5 : x5.toInt = ((6 * (t : Int)) + 1) := by rw [ex5]; exact ti_add hx (show (1 : Int32).toInt = 1 by decide) (by omega) (by omega)
  refine v_sld (v := xs (6 * t + 1)) C hX hbl hbA dL_law_530 (ti_in hx5 (by omega) (by omega)) (by rw [ti_cl hx5, show Int.toNat ((6 * (t : Int)) + 1) = 6 * t + 1 by omega]) ?_
  obtain ⟨im, hM, -⟩ := id h9.1.1
  refine v_cVi C dL_law_531 lL_56 mX9_today 68 (by omega) hM.2.2.1 (by decide) rfl (b_today l G ad h8 h9 (xs (6 * t + 1))) ⟨by decide, by decide⟩ rfl (Nat.le_of_ble_eq_true rfl) ⟨(show 1000 + 9 * t ≤ 600000 by omega), (show 400000 + 3246 * t ≤ 7302250 by omega)⟩ (fun r6 E7 hq8 => ?_)
  obtain ⟨g2, h8, h9⟩ := hq8
  refine v_pop C dL_law_534 rfl ?_
  refine v_goto C 1288 dL_law_535 (by decide) ?_
  exact v_widen (by omega) (by omega) (kont _ _ _ _ _ _ _ _ h8 h9)
set_option maxRecDepth 20000 in
theorem lw_k10 {X : Mx} {l : Launch} {G : Gl} {A : Nat → Prop} (C : Cx X l G A "OddHoursLaw" code 4 ret room_1) {b L : Nat} {xs : Nat → Int32} (hX : va_X b L xs X.s X.s.heap) (hbl : b < X.s.heap.size) (hbA : ¬ A b) (hA : ∀ q, A q → X.s.heap.size ≤ q) (hlr : X.args = #[Value.ref b]) {t : Nat} {x : Int32} (hx : x.toInt = 6 * (t : Int)) (hL : 6 * t + 6 ≤ L) (hL0 : L ≤ 3072) (kont : ∀ (k : Nat) (ic md : Nat → Int32) (td kn : Int32) (fl : Nat → Int32) (ad : Nat → Nat) (E : Nat → va_E), C8 G ad k ic md td kn fl E → R9 G ad (98 + 9 * k) k ic md td kn fl E → V X G A 4 (lw_Z X.below #[Value.ref b] X.s) (98 + 9 * k) ad (1000 + 9 * (t + 1)) (400000 + 3246 * (t + 1)) E 1288 [(0, .ref b), (1, .ref (ad 0)), (2, .ref (ad 68)), (3, .int x)] []) {k : Nat} {ic md : Nat → Int32} {td kn : Int32} {fl : Nat → Int32} {ad : Nat → Nat} {E : Nat → va_E} (h8 : C8 G ad k ic md td kn fl E) (h9 : R9 G ad (98 + 9 * k) k ic md td kn fl E) : V X G A 4 (lw_Z X.below #[Value.ref b] X.s) (98 + 9 * k) ad (1000 + 9 * t) (400000 + 3246 * t) E 538 [(0, .ref b), (1, .ref (ad 0)), (2, .ref (ad 68)), (3, .int x)] [] := by
  refine v_aload_n C 1 dL_law_538 rfl rfl ?_
  refine v_aload_n C 0 dL_law_539 rfl rfl ?_
  refine v_iload_n C 3 dL_law_540 rfl rfl ?_
  refine v_iconst (v := 1) C dL_law_541 (by decide) ?_
  refine v_iadd C dL_law_542 ?_
  refine v_top (fun x1 ex1 => ?_)
  have hx1 : x1.toInt = ((6 * (t : Int)) + 1) := by rw [ex1]; exact ti_add hx (show (1 : Int32).toInt = 1 by decide) (by omega) (by omega)
  refine v_sld (v := xs (6 * t + 1)) C hX hbl hbA dL_law_543 (ti_in hx1 (by omega) (by omega)) (by rw [ti_cl hx1, show Int.toNat ((6 * (t : Int)) + 1) = 6 * t + 1 by omega]) ?_
  obtain ⟨io, hE0, -, -⟩ := id h8.2.2.1
  refine v_cVi C dL_law_544 lL_57 mX8_known 0 (by omega) hE0 (by decide) rfl (a_known l G ad h8 h9 (xs (6 * t + 1))) ⟨by decide, by decide⟩ rfl (Nat.le_of_ble_eq_true rfl) ⟨(show 1000 + 9 * t ≤ 600000 by omega), (show 400000 + 3246 * t ≤ 7302250 by omega)⟩ (fun r2 E3 hq4 => ?_)
  obtain ⟨g1, h8, h9⟩ := hq4
  refine v_pop C dL_law_547 rfl ?_
  refine v_aload_n C 2 dL_law_548 rfl rfl ?_
  refine v_aload_n C 0 dL_law_549 rfl rfl ?_
  refine v_iload_n C 3 dL_law_550 rfl rfl ?_
  refine v_iconst (v := 1) C dL_law_551 (by decide) ?_
  refine v_iadd C dL_law_552 ?_
  refine v_top (fun x5 ex5 => ?_)
  have hx5 : x5.toInt = ((6 * (t : Int)) + 1) := by rw [ex5]; exact ti_add hx (show (1 : Int32).toInt = 1 by decide) (by omega) (by omega)
  refine v_sld (v := xs (6 * t + 1)) C hX hbl hbA dL_law_553 (ti_in hx5 (by omega) (by omega)) (by rw [ti_cl hx5, show Int.toNat ((6 * (t : Int)) + 1) = 6 * t + 1 by omega]) ?_
  obtain ⟨im, hM, -⟩ := id h9.1.1
  refine v_cVi C dL_law_554 lL_60 mX9_known 68 (by omega) hM.2.2.1 (by decide) rfl (b_known l G ad h8 h9 (xs (6 * t + 1))) ⟨by decide, by decide⟩ rfl (Nat.le_of_ble_eq_true rfl) ⟨(show 1000 + 9 * t ≤ 600000 by omega), (show 400000 + 3246 * t ≤ 7302250 by omega)⟩ (fun r6 E7 hq8 => ?_)
  obtain ⟨g2, h8, h9⟩ := hq8
  refine v_pop C dL_law_557 rfl ?_
  refine v_goto C 1288 dL_law_558 (by decide) ?_
  exact v_widen (by omega) (by omega) (kont _ _ _ _ _ _ _ _ h8 h9)
set_option maxRecDepth 20000 in
theorem lw_k11 {X : Mx} {l : Launch} {G : Gl} {A : Nat → Prop} (C : Cx X l G A "OddHoursLaw" code 4 ret room_1) {b L : Nat} {xs : Nat → Int32} (hX : va_X b L xs X.s X.s.heap) (hbl : b < X.s.heap.size) (hbA : ¬ A b) (hA : ∀ q, A q → X.s.heap.size ≤ q) (hlr : X.args = #[Value.ref b]) {t : Nat} {x : Int32} (hx : x.toInt = 6 * (t : Int)) (hL : 6 * t + 6 ≤ L) (hL0 : L ≤ 3072) (kont : ∀ (k : Nat) (ic md : Nat → Int32) (td kn : Int32) (fl : Nat → Int32) (ad : Nat → Nat) (E : Nat → va_E), C8 G ad k ic md td kn fl E → R9 G ad (98 + 9 * k) k ic md td kn fl E → V X G A 4 (lw_Z X.below #[Value.ref b] X.s) (98 + 9 * k) ad (1000 + 9 * (t + 1)) (400000 + 3246 * (t + 1)) E 1288 [(0, .ref b), (1, .ref (ad 0)), (2, .ref (ad 68)), (3, .int x)] []) {k : Nat} {ic md : Nat → Int32} {td kn : Int32} {fl : Nat → Int32} {ad : Nat → Nat} {E : Nat → va_E} (h8 : C8 G ad k ic md td kn fl E) (h9 : R9 G ad (98 + 9 * k) k ic md td kn fl E) : V X G A 4 (lw_Z X.below #[Value.ref b] X.s) (98 + 9 * k) ad (1000 + 9 * t) (400000 + 3246 * t) E 561 [(0, .ref b), (1, .ref (ad 0)), (2, .ref (ad 68)), (3, .int x)] [] := by
  refine v_aload_n C 1 dL_law_561 rfl rfl ?_
  refine v_aload_n C 0 dL_law_562 rfl rfl ?_
  refine v_iload_n C 3 dL_law_563 rfl rfl ?_
  refine v_iconst (v := 1) C dL_law_564 (by decide) ?_
  refine v_iadd C dL_law_565 ?_
  refine v_top (fun x1 ex1 => ?_)
  have hx1 : x1.toInt = ((6 * (t : Int)) + 1) := by rw [ex1]; exact ti_add hx (show (1 : Int32).toInt = 1 by decide) (by omega) (by omega)
  refine v_sld (v := xs (6 * t + 1)) C hX hbl hbA dL_law_566 (ti_in hx1 (by omega) (by omega)) (by rw [ti_cl hx1, show Int.toNat ((6 * (t : Int)) + 1) = 6 * t + 1 by omega]) ?_
  obtain ⟨io, hE0, -, -⟩ := id h8.2.2.1
  refine v_cVi C dL_law_567 lL_61 mX8_changes 0 (by omega) hE0 (by decide) rfl (a_changes l G ad h8 h9 (xs (6 * t + 1))) ⟨by decide, by decide⟩ rfl (Nat.le_of_ble_eq_true rfl) ⟨(show 1000 + 9 * t ≤ 600000 by omega), (show 400000 + 3246 * t ≤ 7302250 by omega)⟩ (fun r2 E3 hq4 => ?_)
  obtain ⟨h8, h9⟩ := hq4
  refine v_pop C dL_law_570 rfl ?_
  refine v_aload_n C 2 dL_law_571 rfl rfl ?_
  refine v_aload_n C 0 dL_law_572 rfl rfl ?_
  refine v_iload_n C 3 dL_law_573 rfl rfl ?_
  refine v_iconst (v := 1) C dL_law_574 (by decide) ?_
  refine v_iadd C dL_law_575 ?_
  refine v_top (fun x5 ex5 => ?_)
  have hx5 : x5.toInt = ((6 * (t : Int)) + 1) := by rw [ex5]; exact ti_add hx (show (1 : Int32).toInt = 1 by decide) (by omega) (by omega)
  refine v_sld (v := xs (6 * t + 1)) C hX hbl hbA dL_law_576 (ti_in hx5 (by omega) (by omega)) (by rw [ti_cl hx5, show Int.toNat ((6 * (t : Int)) + 1) = 6 * t + 1 by omega]) ?_
  obtain ⟨im, hM, -⟩ := id h9.1.1
  refine v_cVi C dL_law_577 lL_64 mX9_changes 68 (by omega) hM.2.2.1 (by decide) rfl (b_changes l G ad h8 h9 (xs (6 * t + 1))) ⟨by decide, by decide⟩ rfl (Nat.le_of_ble_eq_true rfl) ⟨(show 1000 + 9 * t ≤ 600000 by omega), (show 400000 + 3246 * t ≤ 7302250 by omega)⟩ (fun r6 E7 hq8 => ?_)
  obtain ⟨h8, h9⟩ := hq8
  refine v_pop C dL_law_580 rfl ?_
  refine v_goto C 1288 dL_law_581 (by decide) ?_
  exact v_widen (by omega) (by omega) (kont _ _ _ _ _ _ _ _ h8 h9)
set_option maxRecDepth 20000 in
theorem lw_k12 {X : Mx} {l : Launch} {G : Gl} {A : Nat → Prop} (C : Cx X l G A "OddHoursLaw" code 4 ret room_1) {b L : Nat} {xs : Nat → Int32} (hX : va_X b L xs X.s X.s.heap) (hbl : b < X.s.heap.size) (hbA : ¬ A b) (hA : ∀ q, A q → X.s.heap.size ≤ q) (hlr : X.args = #[Value.ref b]) {t : Nat} {x : Int32} (hx : x.toInt = 6 * (t : Int)) (hL : 6 * t + 6 ≤ L) (hL0 : L ≤ 3072) (kont : ∀ (k : Nat) (ic md : Nat → Int32) (td kn : Int32) (fl : Nat → Int32) (ad : Nat → Nat) (E : Nat → va_E), C8 G ad k ic md td kn fl E → R9 G ad (98 + 9 * k) k ic md td kn fl E → V X G A 4 (lw_Z X.below #[Value.ref b] X.s) (98 + 9 * k) ad (1000 + 9 * (t + 1)) (400000 + 3246 * (t + 1)) E 1288 [(0, .ref b), (1, .ref (ad 0)), (2, .ref (ad 68)), (3, .int x)] []) {k : Nat} {ic md : Nat → Int32} {td kn : Int32} {fl : Nat → Int32} {ad : Nat → Nat} {E : Nat → va_E} (h8 : C8 G ad k ic md td kn fl E) (h9 : R9 G ad (98 + 9 * k) k ic md td kn fl E) : V X G A 4 (lw_Z X.below #[Value.ref b] X.s) (98 + 9 * k) ad (1000 + 9 * t) (400000 + 3246 * t) E 584 [(0, .ref b), (1, .ref (ad 0)), (2, .ref (ad 68)), (3, .int x)] [] := by
  refine v_aload_n C 1 dL_law_584 rfl rfl ?_
  refine v_aload_n C 0 dL_law_585 rfl rfl ?_
  refine v_iload_n C 3 dL_law_586 rfl rfl ?_
  refine v_iconst (v := 1) C dL_law_587 (by decide) ?_
  refine v_iadd C dL_law_588 ?_
  refine v_top (fun x1 ex1 => ?_)
  have hx1 : x1.toInt = ((6 * (t : Int)) + 1) := by rw [ex1]; exact ti_add hx (show (1 : Int32).toInt = 1 by decide) (by omega) (by omega)
  refine v_sld (v := xs (6 * t + 1)) C hX hbl hbA dL_law_589 (ti_in hx1 (by omega) (by omega)) (by rw [ti_cl hx1, show Int.toNat ((6 * (t : Int)) + 1) = 6 * t + 1 by omega]) ?_
  refine v_aload_n C 0 dL_law_590 rfl rfl ?_
  refine v_iload_n C 3 dL_law_591 rfl rfl ?_
  refine v_iconst (v := 2) C dL_law_592 (by decide) ?_
  refine v_iadd C dL_law_593 ?_
  refine v_top (fun x2 ex2 => ?_)
  have hx2 : x2.toInt = ((6 * (t : Int)) + 2) := by rw [ex2]; exact ti_add hx (show (2 : Int32).toInt = 2 by decide) (by omega) (by omega)
  refine v_sld (v := xs (6 * t + 2)) C hX hbl hbA dL_law_594 (ti_in hx2 (by omega) (by omega)) (by rw [ti_cl hx2, show Int.toNat ((6 * (t : Int)) + 2) = 6 * t + 2 by omega]) ?_
  obtain ⟨io, hE0, -, -⟩ := id h8.2.2.1
  refine v_cVi C dL_law_595 lL_65 mX8_change 0 (by omega) hE0 (by decide) rfl (a_change l G ad h8 h9 (xs (6 * t + 1)) (xs (6 * t + 2))) ⟨by decide, by decide⟩ rfl (Nat.le_of_ble_eq_true rfl) ⟨(show 1000 + 9 * t ≤ 600000 by omega), (show 400000 + 3246 * t ≤ 7302250 by omega)⟩ (fun r3 E4 hq5 => ?_)
  obtain ⟨h8, h9⟩ := hq5
  refine v_pop C dL_law_598 rfl ?_
  refine v_aload_n C 2 dL_law_599 rfl rfl ?_
  refine v_aload_n C 0 dL_law_600 rfl rfl ?_
  refine v_iload_n C 3 dL_law_601 rfl rfl ?_
  refine v_iconst (v := 1) C dL_law_602 (by decide) ?_
  refine v_iadd C dL_law_603 ?_
  refine v_top (fun x6 ex6 => ?_)
  have hx6 : x6.toInt = ((6 * (t : Int)) + 1) := by rw [ex6]; exact ti_add hx (show (1 : Int32).toInt = 1 by decide) (by omega) (by omega)
  refine v_sld (v := xs (6 * t + 1)) C hX hbl hbA dL_law_604 (ti_in hx6 (by omega) (by omega)) (by rw [ti_cl hx6, show Int.toNat ((6 * (t : Int)) + 1) = 6 * t + 1 by omega]) ?_
  refine v_aload_n C 0 dL_law_605 rfl rfl ?_
  refine v_iload_n C 3 dL_law_606 rfl rfl ?_
  refine v_iconst (v := 2) C dL_law_607 (by decide) ?_
  refine v_iadd C dL_law_608 ?_
  refine v_top (fun x7 ex7 => ?_)
  have hx7 : x7.toInt = ((6 * (t : Int)) + 2) := by rw [ex7]; exact ti_add hx (show (2 : Int32).toInt = 2 by decide) (by omega) (by omega)
  refine v_sld (v := xs (6 * t + 2)) C hX hbl hbA dL_law_609 (ti_in hx7 (by omega) (by omega)) (by rw [ti_cl hx7, show Int.toNat ((6 * (t : Int)) + 2) = 6 * t + 2 by omega]) ?_
  obtain ⟨im, hM, -⟩ := id h9.1.1
  refine v_cVi C dL_law_610 lL_68 mX9_change 68 (by omega) hM.2.2.1 (by decide) rfl (b_change l G ad h8 h9 (xs (6 * t + 1)) (xs (6 * t + 2))) ⟨by decide, by decide⟩ rfl (Nat.le_of_ble_eq_true rfl) ⟨(show 1000 + 9 * t ≤ 600000 by omega), (show 400000 + 3246 * t ≤ 7302250 by omega)⟩ (fun r8 E9 hq10 => ?_)
  obtain ⟨h8, h9⟩ := hq10
  refine v_pop C dL_law_613 rfl ?_
  refine v_goto C 1288 dL_law_614 (by decide) ?_
  exact v_widen (by omega) (by omega) (kont _ _ _ _ _ _ _ _ h8 h9)
set_option maxRecDepth 20000 in
theorem lw_k13 {X : Mx} {l : Launch} {G : Gl} {A : Nat → Prop} (C : Cx X l G A "OddHoursLaw" code 4 ret room_1) {b L : Nat} {xs : Nat → Int32} (hX : va_X b L xs X.s X.s.heap) (hbl : b < X.s.heap.size) (hbA : ¬ A b) (hA : ∀ q, A q → X.s.heap.size ≤ q) (hlr : X.args = #[Value.ref b]) {t : Nat} {x : Int32} (hx : x.toInt = 6 * (t : Int)) (hL : 6 * t + 6 ≤ L) (hL0 : L ≤ 3072) (kont : ∀ (k : Nat) (ic md : Nat → Int32) (td kn : Int32) (fl : Nat → Int32) (ad : Nat → Nat) (E : Nat → va_E), C8 G ad k ic md td kn fl E → R9 G ad (98 + 9 * k) k ic md td kn fl E → V X G A 4 (lw_Z X.below #[Value.ref b] X.s) (98 + 9 * k) ad (1000 + 9 * (t + 1)) (400000 + 3246 * (t + 1)) E 1288 [(0, .ref b), (1, .ref (ad 0)), (2, .ref (ad 68)), (3, .int x)] []) {k : Nat} {ic md : Nat → Int32} {td kn : Int32} {fl : Nat → Int32} {ad : Nat → Nat} {E : Nat → va_E} (h8 : C8 G ad k ic md td kn fl E) (h9 : R9 G ad (98 + 9 * k) k ic md td kn fl E) : V X G A 4 (lw_Z X.below #[Value.ref b] X.s) (98 + 9 * k) ad (1000 + 9 * t) (400000 + 3246 * t) E 617 [(0, .ref b), (1, .ref (ad 0)), (2, .ref (ad 68)), (3, .int x)] [] := by
  refine v_aload_n C 1 dL_law_617 rfl rfl ?_
  refine v_aload_n C 0 dL_law_618 rfl rfl ?_
  refine v_iload_n C 3 dL_law_619 rfl rfl ?_
  refine v_iconst (v := 1) C dL_law_620 (by decide) ?_
  refine v_iadd C dL_law_621 ?_
  refine v_top (fun x1 ex1 => ?_)
  have hx1 : x1.toInt = ((6 * (t : Int)) + 1) := by rw [ex1]; exact ti_add hx (show (1 : Int32).toInt = 1 by decide) (by omega) (by omega)
  refine v_sld (v := xs (6 * t + 1)) C hX hbl hbA dL_law_622 (ti_in hx1 (by omega) (by omega)) (by rw [ti_cl hx1, show Int.toNat ((6 * (t : Int)) + 1) = 6 * t + 1 by omega]) ?_
  refine v_aload_n C 0 dL_law_623 rfl rfl ?_
  refine v_iload_n C 3 dL_law_624 rfl rfl ?_
  refine v_iconst (v := 2) C dL_law_625 (by decide) ?_
  refine v_iadd C dL_law_626 ?_
  refine v_top (fun x2 ex2 => ?_)
  have hx2 : x2.toInt = ((6 * (t : Int)) + 2) := by rw [ex2]; exact ti_add hx (show (2 : Int32).toInt = 2 by decide) (by omega) (by omega)
  refine v_sld (v := xs (6 * t + 2)) C hX hbl hbA dL_law_627 (ti_in hx2 (by omega) (by omega)) (by rw [ti_cl hx2, show Int.toNat ((6 * (t : Int)) + 2) = 6 * t + 2 by omega]) ?_
  obtain ⟨io, hE0, -, -⟩ := id h8.2.2.1
  refine v_cVi C dL_law_628 lL_69 mX8_offset 0 (by omega) hE0 (by decide) rfl (a_offset l G ad h8 h9 (xs (6 * t + 1)) (xs (6 * t + 2))) ⟨by decide, by decide⟩ rfl (Nat.le_of_ble_eq_true rfl) ⟨(show 1000 + 9 * t ≤ 600000 by omega), (show 400000 + 3246 * t ≤ 7302250 by omega)⟩ (fun r3 E4 hq5 => ?_)
  obtain ⟨h8, h9⟩ := hq5
  refine v_pop C dL_law_631 rfl ?_
  refine v_aload_n C 2 dL_law_632 rfl rfl ?_
  refine v_aload_n C 0 dL_law_633 rfl rfl ?_
  refine v_iload_n C 3 dL_law_634 rfl rfl ?_
  refine v_iconst (v := 1) C dL_law_635 (by decide) ?_
  refine v_iadd C dL_law_636 ?_
  refine v_top (fun x6 ex6 => ?_)
  have hx6 : x6.toInt = ((6 * (t : Int)) + 1) := by rw [ex6]; exact ti_add hx (show (1 : Int32).toInt = 1 by decide) (by omega) (by omega)
  refine v_sld (v := xs (6 * t + 1)) C hX hbl hbA dL_law_637 (ti_in hx6 (by omega) (by omega)) (by rw [ti_cl hx6, show Int.toNat ((6 * (t : Int)) + 1) = 6 * t + 1 by omega]) ?_
  refine v_aload_n C 0 dL_law_638 rfl rfl ?_
  refine v_iload_n C 3 dL_law_639 rfl rfl ?_
  refine v_iconst (v := 2) C dL_law_640 (by decide) ?_
  refine v_iadd C dL_law_641 ?_
  refine v_top (fun x7 ex7 => ?_)
  have hx7 : x7.toInt = ((6 * (t : Int)) + 2) := by rw [ex7]; exact ti_add hx (show (2 : Int32).toInt = 2 by decide) (by omega) (by omega)
  refine v_sld (v := xs (6 * t + 2)) C hX hbl hbA dL_law_642 (ti_in hx7 (by omega) (by omega)) (by rw [ti_cl hx7, show Int.toNat ((6 * (t : Int)) + 2) = 6 * t + 2 by omega]) ?_
  obtain ⟨im, hM, -⟩ := id h9.1.1
  refine v_cVi C dL_law_643 lL_72 mX9_offset 68 (by omega) hM.2.2.1 (by decide) rfl (b_offset l G ad h8 h9 (xs (6 * t + 1)) (xs (6 * t + 2))) ⟨by decide, by decide⟩ rfl (Nat.le_of_ble_eq_true rfl) ⟨(show 1000 + 9 * t ≤ 600000 by omega), (show 400000 + 3246 * t ≤ 7302250 by omega)⟩ (fun r8 E9 hq10 => ?_)
  obtain ⟨h8, h9⟩ := hq10
  refine v_pop C dL_law_646 rfl ?_
  refine v_goto C 1288 dL_law_647 (by decide) ?_
  exact v_widen (by omega) (by omega) (kont _ _ _ _ _ _ _ _ h8 h9)
set_option maxRecDepth 20000 in
theorem lw_k14 {X : Mx} {l : Launch} {G : Gl} {A : Nat → Prop} (C : Cx X l G A "OddHoursLaw" code 4 ret room_1) {b L : Nat} {xs : Nat → Int32} (hX : va_X b L xs X.s X.s.heap) (hbl : b < X.s.heap.size) (hbA : ¬ A b) (hA : ∀ q, A q → X.s.heap.size ≤ q) (hlr : X.args = #[Value.ref b]) {t : Nat} {x : Int32} (hx : x.toInt = 6 * (t : Int)) (hL : 6 * t + 6 ≤ L) (hL0 : L ≤ 3072) (kont : ∀ (k : Nat) (ic md : Nat → Int32) (td kn : Int32) (fl : Nat → Int32) (ad : Nat → Nat) (E : Nat → va_E), C8 G ad k ic md td kn fl E → R9 G ad (98 + 9 * k) k ic md td kn fl E → V X G A 4 (lw_Z X.below #[Value.ref b] X.s) (98 + 9 * k) ad (1000 + 9 * (t + 1)) (400000 + 3246 * (t + 1)) E 1288 [(0, .ref b), (1, .ref (ad 0)), (2, .ref (ad 68)), (3, .int x)] []) {k : Nat} {ic md : Nat → Int32} {td kn : Int32} {fl : Nat → Int32} {ad : Nat → Nat} {E : Nat → va_E} (h8 : C8 G ad k ic md td kn fl E) (h9 : R9 G ad (98 + 9 * k) k ic md td kn fl E) : V X G A 4 (lw_Z X.below #[Value.ref b] X.s) (98 + 9 * k) ad (1000 + 9 * t) (400000 + 3246 * t) E 650 [(0, .ref b), (1, .ref (ad 0)), (2, .ref (ad 68)), (3, .int x)] [] := by
  refine v_aload_n C 1 dL_law_650 rfl rfl ?_
  refine v_aload_n C 0 dL_law_651 rfl rfl ?_
  refine v_iload_n C 3 dL_law_652 rfl rfl ?_
  refine v_iconst (v := 1) C dL_law_653 (by decide) ?_
  refine v_iadd C dL_law_654 ?_
  refine v_top (fun x1 ex1 => ?_)
  have hx1 : x1.toInt = ((6 * (t : Int)) + 1) := by rw [ex1]; exact ti_add hx (show (1 : Int32).toInt = 1 by decide) (by omega) (by omega)
  refine v_sld (v := xs (6 * t + 1)) C hX hbl hbA dL_law_655 (ti_in hx1 (by omega) (by omega)) (by rw [ti_cl hx1, show Int.toNat ((6 * (t : Int)) + 1) = 6 * t + 1 by omega]) ?_
  refine v_aload_n C 0 dL_law_656 rfl rfl ?_
  refine v_iload_n C 3 dL_law_657 rfl rfl ?_
  refine v_iconst (v := 2) C dL_law_658 (by decide) ?_
  refine v_iadd C dL_law_659 ?_
  refine v_top (fun x2 ex2 => ?_)
  have hx2 : x2.toInt = ((6 * (t : Int)) + 2) := by rw [ex2]; exact ti_add hx (show (2 : Int32).toInt = 2 by decide) (by omega) (by omega)
  refine v_sld (v := xs (6 * t + 2)) C hX hbl hbA dL_law_660 (ti_in hx2 (by omega) (by omega)) (by rw [ti_cl hx2, show Int.toNat ((6 * (t : Int)) + 2) = 6 * t + 2 by omega]) ?_
  obtain ⟨io, hE0, -, -⟩ := id h8.2.2.1
  refine v_cVi C dL_law_661 lL_73 mX8_wall 0 (by omega) hE0 (by decide) rfl (a_wall l G ad h8 h9 (xs (6 * t + 1)) (xs (6 * t + 2))) ⟨by decide, by decide⟩ rfl (Nat.le_of_ble_eq_true rfl) ⟨(show 1000 + 9 * t ≤ 600000 by omega), (show 400000 + 3246 * t ≤ 7302250 by omega)⟩ (fun r3 E4 hq5 => ?_)
  obtain ⟨h8, h9⟩ := hq5
  refine v_pop C dL_law_664 rfl ?_
  refine v_aload_n C 2 dL_law_665 rfl rfl ?_
  refine v_aload_n C 0 dL_law_666 rfl rfl ?_
  refine v_iload_n C 3 dL_law_667 rfl rfl ?_
  refine v_iconst (v := 1) C dL_law_668 (by decide) ?_
  refine v_iadd C dL_law_669 ?_
  refine v_top (fun x6 ex6 => ?_)
  have hx6 : x6.toInt = ((6 * (t : Int)) + 1) := by rw [ex6]; exact ti_add hx (show (1 : Int32).toInt = 1 by decide) (by omega) (by omega)
  refine v_sld (v := xs (6 * t + 1)) C hX hbl hbA dL_law_670 (ti_in hx6 (by omega) (by omega)) (by rw [ti_cl hx6, show Int.toNat ((6 * (t : Int)) + 1) = 6 * t + 1 by omega]) ?_
  refine v_aload_n C 0 dL_law_671 rfl rfl ?_
  refine v_iload_n C 3 dL_law_672 rfl rfl ?_
  refine v_iconst (v := 2) C dL_law_673 (by decide) ?_
  refine v_iadd C dL_law_674 ?_
  refine v_top (fun x7 ex7 => ?_)
  have hx7 : x7.toInt = ((6 * (t : Int)) + 2) := by rw [ex7]; exact ti_add hx (show (2 : Int32).toInt = 2 by decide) (by omega) (by omega)
  refine v_sld (v := xs (6 * t + 2)) C hX hbl hbA dL_law_675 (ti_in hx7 (by omega) (by omega)) (by rw [ti_cl hx7, show Int.toNat ((6 * (t : Int)) + 2) = 6 * t + 2 by omega]) ?_
  obtain ⟨im, hM, -⟩ := id h9.1.1
  refine v_cVi C dL_law_676 lL_76 mX9_wall 68 (by omega) hM.2.2.1 (by decide) rfl (b_wall l G ad h8 h9 (xs (6 * t + 1)) (xs (6 * t + 2))) ⟨by decide, by decide⟩ rfl (Nat.le_of_ble_eq_true rfl) ⟨(show 1000 + 9 * t ≤ 600000 by omega), (show 400000 + 3246 * t ≤ 7302250 by omega)⟩ (fun r8 E9 hq10 => ?_)
  obtain ⟨h8, h9⟩ := hq10
  refine v_pop C dL_law_679 rfl ?_
  refine v_goto C 1288 dL_law_680 (by decide) ?_
  exact v_widen (by omega) (by omega) (kont _ _ _ _ _ _ _ _ h8 h9)
set_option maxRecDepth 20000 in
theorem lw_k15 {X : Mx} {l : Launch} {G : Gl} {A : Nat → Prop} (C : Cx X l G A "OddHoursLaw" code 4 ret room_1) {b L : Nat} {xs : Nat → Int32} (hX : va_X b L xs X.s X.s.heap) (hbl : b < X.s.heap.size) (hbA : ¬ A b) (hA : ∀ q, A q → X.s.heap.size ≤ q) (hlr : X.args = #[Value.ref b]) {t : Nat} {x : Int32} (hx : x.toInt = 6 * (t : Int)) (hL : 6 * t + 6 ≤ L) (hL0 : L ≤ 3072) (kont : ∀ (k : Nat) (ic md : Nat → Int32) (td kn : Int32) (fl : Nat → Int32) (ad : Nat → Nat) (E : Nat → va_E), C8 G ad k ic md td kn fl E → R9 G ad (98 + 9 * k) k ic md td kn fl E → V X G A 4 (lw_Z X.below #[Value.ref b] X.s) (98 + 9 * k) ad (1000 + 9 * (t + 1)) (400000 + 3246 * (t + 1)) E 1288 [(0, .ref b), (1, .ref (ad 0)), (2, .ref (ad 68)), (3, .int x)] []) {k : Nat} {ic md : Nat → Int32} {td kn : Int32} {fl : Nat → Int32} {ad : Nat → Nat} {E : Nat → va_E} (h8 : C8 G ad k ic md td kn fl E) (h9 : R9 G ad (98 + 9 * k) k ic md td kn fl E) : V X G A 4 (lw_Z X.below #[Value.ref b] X.s) (98 + 9 * k) ad (1000 + 9 * t) (400000 + 3246 * t) E 683 [(0, .ref b), (1, .ref (ad 0)), (2, .ref (ad 68)), (3, .int x)] [] := by
  refine v_aload_n C 1 dL_law_683 rfl rfl ?_
  refine v_aload_n C 0 dL_law_684 rfl rfl ?_
  refine v_iload_n C 3 dL_law_685 rfl rfl ?_
  refine v_iconst (v := 1) C dL_law_686 (by decide) ?_
  refine v_iadd C dL_law_687 ?_
  refine v_top (fun x1 ex1 => ?_)
  have hx1 : x1.toInt = ((6 * (t : Int)) + 1) := by rw [ex1]; exact ti_add hx (show (1 : Int32).toInt = 1 by decide) (by omega) (by omega)
  refine v_sld (v := xs (6 * t + 1)) C hX hbl hbA dL_law_688 (ti_in hx1 (by omega) (by omega)) (by rw [ti_cl hx1, show Int.toNat ((6 * (t : Int)) + 1) = 6 * t + 1 by omega]) ?_
  refine v_aload_n C 0 dL_law_689 rfl rfl ?_
  refine v_iload_n C 3 dL_law_690 rfl rfl ?_
  refine v_iconst (v := 2) C dL_law_691 (by decide) ?_
  refine v_iadd C dL_law_692 ?_
  refine v_top (fun x2 ex2 => ?_)
  have hx2 : x2.toInt = ((6 * (t : Int)) + 2) := by rw [ex2]; exact ti_add hx (show (2 : Int32).toInt = 2 by decide) (by omega) (by omega)
  refine v_sld (v := xs (6 * t + 2)) C hX hbl hbA dL_law_693 (ti_in hx2 (by omega) (by omega)) (by rw [ti_cl hx2, show Int.toNat ((6 * (t : Int)) + 2) = 6 * t + 2 by omega]) ?_
  obtain ⟨io, hE0, -, -⟩ := id h8.2.2.1
  refine v_cVi C dL_law_694 lL_77 mX8_moments 0 (by omega) hE0 (by decide) rfl (a_moments l G ad h8 h9 (xs (6 * t + 1)) (xs (6 * t + 2))) ⟨by decide, by decide⟩ rfl (Nat.le_of_ble_eq_true rfl) ⟨(show 1000 + 9 * t ≤ 600000 by omega), (show 400000 + 3246 * t ≤ 7302250 by omega)⟩ (fun r3 E4 hq5 => ?_)
  obtain ⟨h8, h9⟩ := hq5
  refine v_pop C dL_law_697 rfl ?_
  refine v_aload_n C 2 dL_law_698 rfl rfl ?_
  refine v_aload_n C 0 dL_law_699 rfl rfl ?_
  refine v_iload_n C 3 dL_law_700 rfl rfl ?_
  refine v_iconst (v := 1) C dL_law_701 (by decide) ?_
  refine v_iadd C dL_law_702 ?_
  refine v_top (fun x6 ex6 => ?_)
  have hx6 : x6.toInt = ((6 * (t : Int)) + 1) := by rw [ex6]; exact ti_add hx (show (1 : Int32).toInt = 1 by decide) (by omega) (by omega)
  refine v_sld (v := xs (6 * t + 1)) C hX hbl hbA dL_law_703 (ti_in hx6 (by omega) (by omega)) (by rw [ti_cl hx6, show Int.toNat ((6 * (t : Int)) + 1) = 6 * t + 1 by omega]) ?_
  refine v_aload_n C 0 dL_law_704 rfl rfl ?_
  refine v_iload_n C 3 dL_law_705 rfl rfl ?_
  refine v_iconst (v := 2) C dL_law_706 (by decide) ?_
  refine v_iadd C dL_law_707 ?_
  refine v_top (fun x7 ex7 => ?_)
  have hx7 : x7.toInt = ((6 * (t : Int)) + 2) := by rw [ex7]; exact ti_add hx (show (2 : Int32).toInt = 2 by decide) (by omega) (by omega)
  refine v_sld (v := xs (6 * t + 2)) C hX hbl hbA dL_law_708 (ti_in hx7 (by omega) (by omega)) (by rw [ti_cl hx7, show Int.toNat ((6 * (t : Int)) + 2) = 6 * t + 2 by omega]) ?_
  obtain ⟨im, hM, -⟩ := id h9.1.1
  refine v_cVi C dL_law_709 lL_80 mX9_moments 68 (by omega) hM.2.2.1 (by decide) rfl (b_moments l G ad h8 h9 (xs (6 * t + 1)) (xs (6 * t + 2))) ⟨by decide, by decide⟩ rfl (Nat.le_of_ble_eq_true rfl) ⟨(show 1000 + 9 * t ≤ 600000 by omega), (show 400000 + 3246 * t ≤ 7302250 by omega)⟩ (fun r8 E9 hq10 => ?_)
  obtain ⟨h8, h9⟩ := hq10
  refine v_pop C dL_law_712 rfl ?_
  refine v_goto C 1288 dL_law_713 (by decide) ?_
  exact v_widen (by omega) (by omega) (kont _ _ _ _ _ _ _ _ h8 h9)
set_option maxRecDepth 20000 in
theorem lw_k16 {X : Mx} {l : Launch} {G : Gl} {A : Nat → Prop} (C : Cx X l G A "OddHoursLaw" code 4 ret room_1) {b L : Nat} {xs : Nat → Int32} (hX : va_X b L xs X.s X.s.heap) (hbl : b < X.s.heap.size) (hbA : ¬ A b) (hA : ∀ q, A q → X.s.heap.size ≤ q) (hlr : X.args = #[Value.ref b]) {t : Nat} {x : Int32} (hx : x.toInt = 6 * (t : Int)) (hL : 6 * t + 6 ≤ L) (hL0 : L ≤ 3072) (kont : ∀ (k : Nat) (ic md : Nat → Int32) (td kn : Int32) (fl : Nat → Int32) (ad : Nat → Nat) (E : Nat → va_E), C8 G ad k ic md td kn fl E → R9 G ad (98 + 9 * k) k ic md td kn fl E → V X G A 4 (lw_Z X.below #[Value.ref b] X.s) (98 + 9 * k) ad (1000 + 9 * (t + 1)) (400000 + 3246 * (t + 1)) E 1288 [(0, .ref b), (1, .ref (ad 0)), (2, .ref (ad 68)), (3, .int x)] []) {k : Nat} {ic md : Nat → Int32} {td kn : Int32} {fl : Nat → Int32} {ad : Nat → Nat} {E : Nat → va_E} (h8 : C8 G ad k ic md td kn fl E) (h9 : R9 G ad (98 + 9 * k) k ic md td kn fl E) : V X G A 4 (lw_Z X.below #[Value.ref b] X.s) (98 + 9 * k) ad (1000 + 9 * t) (400000 + 3246 * t) E 716 [(0, .ref b), (1, .ref (ad 0)), (2, .ref (ad 68)), (3, .int x)] [] := by
  refine v_aload_n C 1 dL_law_716 rfl rfl ?_
  refine v_aload_n C 0 dL_law_717 rfl rfl ?_
  refine v_iload_n C 3 dL_law_718 rfl rfl ?_
  refine v_iconst (v := 1) C dL_law_719 (by decide) ?_
  refine v_iadd C dL_law_720 ?_
  refine v_top (fun x1 ex1 => ?_)
  have hx1 : x1.toInt = ((6 * (t : Int)) + 1) := by rw [ex1]; exact ti_add hx (show (1 : Int32).toInt = 1 by decide) (by omega) (by omega)
  refine v_sld (v := xs (6 * t + 1)) C hX hbl hbA dL_law_721 (ti_in hx1 (by omega) (by omega)) (by rw [ti_cl hx1, show Int.toNat ((6 * (t : Int)) + 1) = 6 * t + 1 by omega]) ?_
  refine v_aload_n C 0 dL_law_722 rfl rfl ?_
  refine v_iload_n C 3 dL_law_723 rfl rfl ?_
  refine v_iconst (v := 2) C dL_law_724 (by decide) ?_
  refine v_iadd C dL_law_725 ?_
  refine v_top (fun x2 ex2 => ?_)
  have hx2 : x2.toInt = ((6 * (t : Int)) + 2) := by rw [ex2]; exact ti_add hx (show (2 : Int32).toInt = 2 by decide) (by omega) (by omega)
  refine v_sld (v := xs (6 * t + 2)) C hX hbl hbA dL_law_726 (ti_in hx2 (by omega) (by omega)) (by rw [ti_cl hx2, show Int.toNat ((6 * (t : Int)) + 2) = 6 * t + 2 by omega]) ?_
  refine v_aload_n C 0 dL_law_727 rfl rfl ?_
  refine v_iload_n C 3 dL_law_728 rfl rfl ?_
  refine v_iconst (v := 3) C dL_law_729 (by decide) ?_
  refine v_iadd C dL_law_730 ?_
  refine v_top (fun x3 ex3 => ?_)
  have hx3 : x3.toInt = ((6 * (t : Int)) + 3) := by rw [ex3]; exact ti_add hx (show (3 : Int32).toInt = 3 by decide) (by omega) (by omega)
  refine v_sld (v := xs (6 * t + 3)) C hX hbl hbA dL_law_731 (ti_in hx3 (by omega) (by omega)) (by rw [ti_cl hx3, show Int.toNat ((6 * (t : Int)) + 3) = 6 * t + 3 by omega]) ?_
  obtain ⟨io, hE0, -, -⟩ := id h8.2.2.1
  refine v_cVi C dL_law_732 lL_81 mX8_moment 0 (by omega) hE0 (by decide) rfl (a_moment l G ad h8 h9 (xs (6 * t + 1)) (xs (6 * t + 2)) (xs (6 * t + 3))) ⟨by decide, by decide⟩ rfl (Nat.le_of_ble_eq_true rfl) ⟨(show 1000 + 9 * t ≤ 600000 by omega), (show 400000 + 3246 * t ≤ 7302250 by omega)⟩ (fun r4 E5 hq6 => ?_)
  obtain ⟨h8, h9⟩ := hq6
  refine v_pop C dL_law_735 rfl ?_
  refine v_aload_n C 2 dL_law_736 rfl rfl ?_
  refine v_aload_n C 0 dL_law_737 rfl rfl ?_
  refine v_iload_n C 3 dL_law_738 rfl rfl ?_
  refine v_iconst (v := 1) C dL_law_739 (by decide) ?_
  refine v_iadd C dL_law_740 ?_
  refine v_top (fun x7 ex7 => ?_)
  have hx7 : x7.toInt = ((6 * (t : Int)) + 1) := by rw [ex7]; exact ti_add hx (show (1 : Int32).toInt = 1 by decide) (by omega) (by omega)
  refine v_sld (v := xs (6 * t + 1)) C hX hbl hbA dL_law_741 (ti_in hx7 (by omega) (by omega)) (by rw [ti_cl hx7, show Int.toNat ((6 * (t : Int)) + 1) = 6 * t + 1 by omega]) ?_
  refine v_aload_n C 0 dL_law_742 rfl rfl ?_
  refine v_iload_n C 3 dL_law_743 rfl rfl ?_
  refine v_iconst (v := 2) C dL_law_744 (by decide) ?_
  refine v_iadd C dL_law_745 ?_
  refine v_top (fun x8 ex8 => ?_)
  have hx8 : x8.toInt = ((6 * (t : Int)) + 2) := by rw [ex8]; exact ti_add hx (show (2 : Int32).toInt = 2 by decide) (by omega) (by omega)
  refine v_sld (v := xs (6 * t + 2)) C hX hbl hbA dL_law_746 (ti_in hx8 (by omega) (by omega)) (by rw [ti_cl hx8, show Int.toNat ((6 * (t : Int)) + 2) = 6 * t + 2 by omega]) ?_
  refine v_aload_n C 0 dL_law_747 rfl rfl ?_
  refine v_iload_n C 3 dL_law_748 rfl rfl ?_
  refine v_iconst (v := 3) C dL_law_749 (by decide) ?_
  refine v_iadd C dL_law_750 ?_
  refine v_top (fun x9 ex9 => ?_)
  have hx9 : x9.toInt = ((6 * (t : Int)) + 3) := by rw [ex9]; exact ti_add hx (show (3 : Int32).toInt = 3 by decide) (by omega) (by omega)
  refine v_sld (v := xs (6 * t + 3)) C hX hbl hbA dL_law_751 (ti_in hx9 (by omega) (by omega)) (by rw [ti_cl hx9, show Int.toNat ((6 * (t : Int)) + 3) = 6 * t + 3 by omega]) ?_
  obtain ⟨im, hM, -⟩ := id h9.1.1
  refine v_cVi C dL_law_752 lL_84 mX9_moment 68 (by omega) hM.2.2.1 (by decide) rfl (b_moment l G ad h8 h9 (xs (6 * t + 1)) (xs (6 * t + 2)) (xs (6 * t + 3))) ⟨by decide, by decide⟩ rfl (Nat.le_of_ble_eq_true rfl) ⟨(show 1000 + 9 * t ≤ 600000 by omega), (show 400000 + 3246 * t ≤ 7302250 by omega)⟩ (fun r10 E11 hq12 => ?_)
  obtain ⟨h8, h9⟩ := hq12
  refine v_pop C dL_law_755 rfl ?_
  refine v_goto C 1288 dL_law_756 (by decide) ?_
  exact v_widen (by omega) (by omega) (kont _ _ _ _ _ _ _ _ h8 h9)
set_option maxRecDepth 20000 in
theorem lw_k17 {X : Mx} {l : Launch} {G : Gl} {A : Nat → Prop} (C : Cx X l G A "OddHoursLaw" code 4 ret room_1) {b L : Nat} {xs : Nat → Int32} (hX : va_X b L xs X.s X.s.heap) (hbl : b < X.s.heap.size) (hbA : ¬ A b) (hA : ∀ q, A q → X.s.heap.size ≤ q) (hlr : X.args = #[Value.ref b]) {t : Nat} {x : Int32} (hx : x.toInt = 6 * (t : Int)) (hL : 6 * t + 6 ≤ L) (hL0 : L ≤ 3072) (kont : ∀ (k : Nat) (ic md : Nat → Int32) (td kn : Int32) (fl : Nat → Int32) (ad : Nat → Nat) (E : Nat → va_E), C8 G ad k ic md td kn fl E → R9 G ad (98 + 9 * k) k ic md td kn fl E → V X G A 4 (lw_Z X.below #[Value.ref b] X.s) (98 + 9 * k) ad (1000 + 9 * (t + 1)) (400000 + 3246 * (t + 1)) E 1288 [(0, .ref b), (1, .ref (ad 0)), (2, .ref (ad 68)), (3, .int x)] []) {k : Nat} {ic md : Nat → Int32} {td kn : Int32} {fl : Nat → Int32} {ad : Nat → Nat} {E : Nat → va_E} (h8 : C8 G ad k ic md td kn fl E) (h9 : R9 G ad (98 + 9 * k) k ic md td kn fl E) : V X G A 4 (lw_Z X.below #[Value.ref b] X.s) (98 + 9 * k) ad (1000 + 9 * t) (400000 + 3246 * t) E 759 [(0, .ref b), (1, .ref (ad 0)), (2, .ref (ad 68)), (3, .int x)] [] := by
  refine v_aload_n C 1 dL_law_759 rfl rfl ?_
  refine v_aload_n C 0 dL_law_760 rfl rfl ?_
  refine v_iload_n C 3 dL_law_761 rfl rfl ?_
  refine v_iconst (v := 1) C dL_law_762 (by decide) ?_
  refine v_iadd C dL_law_763 ?_
  refine v_top (fun x1 ex1 => ?_)
  have hx1 : x1.toInt = ((6 * (t : Int)) + 1) := by rw [ex1]; exact ti_add hx (show (1 : Int32).toInt = 1 by decide) (by omega) (by omega)
  refine v_sld (v := xs (6 * t + 1)) C hX hbl hbA dL_law_764 (ti_in hx1 (by omega) (by omega)) (by rw [ti_cl hx1, show Int.toNat ((6 * (t : Int)) + 1) = 6 * t + 1 by omega]) ?_
  obtain ⟨io, hE0, -, -⟩ := id h8.2.2.1
  refine v_cVi C dL_law_765 lL_85 mX8_clear 0 (by omega) hE0 (by decide) rfl (a_clear l G ad h8 h9 (xs (6 * t + 1))) ⟨by decide, by decide⟩ rfl (Nat.le_of_ble_eq_true rfl) ⟨(show 1000 + 9 * t ≤ 600000 by omega), (show 400000 + 3246 * t ≤ 7302250 by omega)⟩ (fun r2 E3 hq4 => ?_)
  obtain ⟨g1, h8, h9⟩ := hq4
  refine v_pop C dL_law_768 rfl ?_
  refine v_aload_n C 2 dL_law_769 rfl rfl ?_
  refine v_aload_n C 0 dL_law_770 rfl rfl ?_
  refine v_iload_n C 3 dL_law_771 rfl rfl ?_
  refine v_iconst (v := 1) C dL_law_772 (by decide) ?_
  refine v_iadd C dL_law_773 ?_
  refine v_top (fun x5 ex5 => ?_)
  have hx5 : x5.toInt = ((6 * (t : Int)) + 1) := by rw [ex5]; exact ti_add hx (show (1 : Int32).toInt = 1 by decide) (by omega) (by omega)
  refine v_sld (v := xs (6 * t + 1)) C hX hbl hbA dL_law_774 (ti_in hx5 (by omega) (by omega)) (by rw [ti_cl hx5, show Int.toNat ((6 * (t : Int)) + 1) = 6 * t + 1 by omega]) ?_
  obtain ⟨im, hM, -⟩ := id h9.1.1
  refine v_cVi C dL_law_775 lL_88 mX9_clear 68 (by omega) hM.2.2.1 (by decide) rfl (b_clear l G ad h8 h9 (xs (6 * t + 1))) ⟨by decide, by decide⟩ rfl (Nat.le_of_ble_eq_true rfl) ⟨(show 1000 + 9 * t ≤ 600000 by omega), (show 400000 + 3246 * t ≤ 7302250 by omega)⟩ (fun r6 E7 hq8 => ?_)
  obtain ⟨g2, h8, h9⟩ := hq8
  refine v_pop C dL_law_778 rfl ?_
  refine v_goto C 1288 dL_law_779 (by decide) ?_
  exact v_widen (by omega) (by omega) (kont _ _ _ _ _ _ _ _ h8 h9)
set_option maxRecDepth 20000 in
theorem lw_k18 {X : Mx} {l : Launch} {G : Gl} {A : Nat → Prop} (C : Cx X l G A "OddHoursLaw" code 4 ret room_1) {b L : Nat} {xs : Nat → Int32} (hX : va_X b L xs X.s X.s.heap) (hbl : b < X.s.heap.size) (hbA : ¬ A b) (hA : ∀ q, A q → X.s.heap.size ≤ q) (hlr : X.args = #[Value.ref b]) {t : Nat} {x : Int32} (hx : x.toInt = 6 * (t : Int)) (hL : 6 * t + 6 ≤ L) (hL0 : L ≤ 3072) (kont : ∀ (k : Nat) (ic md : Nat → Int32) (td kn : Int32) (fl : Nat → Int32) (ad : Nat → Nat) (E : Nat → va_E), C8 G ad k ic md td kn fl E → R9 G ad (98 + 9 * k) k ic md td kn fl E → V X G A 4 (lw_Z X.below #[Value.ref b] X.s) (98 + 9 * k) ad (1000 + 9 * (t + 1)) (400000 + 3246 * (t + 1)) E 1288 [(0, .ref b), (1, .ref (ad 0)), (2, .ref (ad 68)), (3, .int x)] []) {k : Nat} {ic md : Nat → Int32} {td kn : Int32} {fl : Nat → Int32} {ad : Nat → Nat} {E : Nat → va_E} (h8 : C8 G ad k ic md td kn fl E) (h9 : R9 G ad (98 + 9 * k) k ic md td kn fl E) : V X G A 4 (lw_Z X.below #[Value.ref b] X.s) (98 + 9 * k) ad (1000 + 9 * t) (400000 + 3246 * t) E 782 [(0, .ref b), (1, .ref (ad 0)), (2, .ref (ad 68)), (3, .int x)] [] := by
  refine v_aload_n C 1 dL_law_782 rfl rfl ?_
  refine v_aload_n C 0 dL_law_783 rfl rfl ?_
  refine v_iload_n C 3 dL_law_784 rfl rfl ?_
  refine v_iconst (v := 1) C dL_law_785 (by decide) ?_
  refine v_iadd C dL_law_786 ?_
  refine v_top (fun x1 ex1 => ?_)
  have hx1 : x1.toInt = ((6 * (t : Int)) + 1) := by rw [ex1]; exact ti_add hx (show (1 : Int32).toInt = 1 by decide) (by omega) (by omega)
  refine v_sld (v := xs (6 * t + 1)) C hX hbl hbA dL_law_787 (ti_in hx1 (by omega) (by omega)) (by rw [ti_cl hx1, show Int.toNat ((6 * (t : Int)) + 1) = 6 * t + 1 by omega]) ?_
  refine v_aload_n C 0 dL_law_788 rfl rfl ?_
  refine v_iload_n C 3 dL_law_789 rfl rfl ?_
  refine v_iconst (v := 2) C dL_law_790 (by decide) ?_
  refine v_iadd C dL_law_791 ?_
  refine v_top (fun x2 ex2 => ?_)
  have hx2 : x2.toInt = ((6 * (t : Int)) + 2) := by rw [ex2]; exact ti_add hx (show (2 : Int32).toInt = 2 by decide) (by omega) (by omega)
  refine v_sld (v := xs (6 * t + 2)) C hX hbl hbA dL_law_792 (ti_in hx2 (by omega) (by omega)) (by rw [ti_cl hx2, show Int.toNat ((6 * (t : Int)) + 2) = 6 * t + 2 by omega]) ?_
  refine v_aload_n C 0 dL_law_793 rfl rfl ?_
  refine v_iload_n C 3 dL_law_794 rfl rfl ?_
  refine v_iconst (v := 3) C dL_law_795 (by decide) ?_
  refine v_iadd C dL_law_796 ?_
  refine v_top (fun x3 ex3 => ?_)
  have hx3 : x3.toInt = ((6 * (t : Int)) + 3) := by rw [ex3]; exact ti_add hx (show (3 : Int32).toInt = 3 by decide) (by omega) (by omega)
  refine v_sld (v := xs (6 * t + 3)) C hX hbl hbA dL_law_797 (ti_in hx3 (by omega) (by omega)) (by rw [ti_cl hx3, show Int.toNat ((6 * (t : Int)) + 3) = 6 * t + 3 by omega]) ?_
  refine v_aload_n C 0 dL_law_798 rfl rfl ?_
  refine v_iload_n C 3 dL_law_799 rfl rfl ?_
  refine v_iconst (v := 4) C dL_law_800 (by decide) ?_
  refine v_iadd C dL_law_801 ?_
  refine v_top (fun x4 ex4 => ?_)
  have hx4 : x4.toInt = ((6 * (t : Int)) + 4) := by rw [ex4]; exact ti_add hx (show (4 : Int32).toInt = 4 by decide) (by omega) (by omega)
  refine v_sld (v := xs (6 * t + 4)) C hX hbl hbA dL_law_802 (ti_in hx4 (by omega) (by omega)) (by rw [ti_cl hx4, show Int.toNat ((6 * (t : Int)) + 4) = 6 * t + 4 by omega]) ?_
  obtain ⟨io, hE0, -, -⟩ := id h8.2.2.1
  refine v_cVi C dL_law_803 lL_89 mX8_line 0 (by omega) hE0 (by decide) rfl (a_line l G ad h8 h9 (xs (6 * t + 1)) (xs (6 * t + 2)) (xs (6 * t + 3)) (xs (6 * t + 4))) ⟨by decide, by decide⟩ rfl (Nat.le_of_ble_eq_true rfl) ⟨(show 1000 + 9 * t ≤ 600000 by omega), (show 400000 + 3246 * t ≤ 7302250 by omega)⟩ (fun r5 E6 hq7 => ?_)
  obtain ⟨g1, h8, h9⟩ := hq7
  refine v_pop C dL_law_806 rfl ?_
  refine v_aload_n C 2 dL_law_807 rfl rfl ?_
  refine v_aload_n C 0 dL_law_808 rfl rfl ?_
  refine v_iload_n C 3 dL_law_809 rfl rfl ?_
  refine v_iconst (v := 1) C dL_law_810 (by decide) ?_
  refine v_iadd C dL_law_811 ?_
  refine v_top (fun x8 ex8 => ?_)
  have hx8 : x8.toInt = ((6 * (t : Int)) + 1) := by rw [ex8]; exact ti_add hx (show (1 : Int32).toInt = 1 by decide) (by omega) (by omega)
  refine v_sld (v := xs (6 * t + 1)) C hX hbl hbA dL_law_812 (ti_in hx8 (by omega) (by omega)) (by rw [ti_cl hx8, show Int.toNat ((6 * (t : Int)) + 1) = 6 * t + 1 by omega]) ?_
  refine v_aload_n C 0 dL_law_813 rfl rfl ?_
  refine v_iload_n C 3 dL_law_814 rfl rfl ?_
  refine v_iconst (v := 2) C dL_law_815 (by decide) ?_
  refine v_iadd C dL_law_816 ?_
  refine v_top (fun x9 ex9 => ?_)
  have hx9 : x9.toInt = ((6 * (t : Int)) + 2) := by rw [ex9]; exact ti_add hx (show (2 : Int32).toInt = 2 by decide) (by omega) (by omega)
  refine v_sld (v := xs (6 * t + 2)) C hX hbl hbA dL_law_817 (ti_in hx9 (by omega) (by omega)) (by rw [ti_cl hx9, show Int.toNat ((6 * (t : Int)) + 2) = 6 * t + 2 by omega]) ?_
  refine v_aload_n C 0 dL_law_818 rfl rfl ?_
  refine v_iload_n C 3 dL_law_819 rfl rfl ?_
  refine v_iconst (v := 3) C dL_law_820 (by decide) ?_
  refine v_iadd C dL_law_821 ?_
  refine v_top (fun x10 ex10 => ?_)
  have hx10 : x10.toInt = ((6 * (t : Int)) + 3) := by rw [ex10]; exact ti_add hx (show (3 : Int32).toInt = 3 by decide) (by omega) (by omega)
  refine v_sld (v := xs (6 * t + 3)) C hX hbl hbA dL_law_822 (ti_in hx10 (by omega) (by omega)) (by rw [ti_cl hx10, show Int.toNat ((6 * (t : Int)) + 3) = 6 * t + 3 by omega]) ?_
  refine v_aload_n C 0 dL_law_823 rfl rfl ?_
  refine v_iload_n C 3 dL_law_824 rfl rfl ?_
  refine v_iconst (v := 4) C dL_law_825 (by decide) ?_
  refine v_iadd C dL_law_826 ?_
  refine v_top (fun x11 ex11 => ?_)
  have hx11 : x11.toInt = ((6 * (t : Int)) + 4) := by rw [ex11]; exact ti_add hx (show (4 : Int32).toInt = 4 by decide) (by omega) (by omega)
  refine v_sld (v := xs (6 * t + 4)) C hX hbl hbA dL_law_827 (ti_in hx11 (by omega) (by omega)) (by rw [ti_cl hx11, show Int.toNat ((6 * (t : Int)) + 4) = 6 * t + 4 by omega]) ?_
  obtain ⟨im, hM, -⟩ := id h9.1.1
  refine v_cVi C dL_law_828 lL_93 mX9_line 68 (by omega) hM.2.2.1 (by decide) rfl (b_line l G ad h8 h9 (xs (6 * t + 1)) (xs (6 * t + 2)) (xs (6 * t + 3)) (xs (6 * t + 4))) ⟨by decide, by decide⟩ rfl (Nat.le_of_ble_eq_true rfl) ⟨(show 1000 + 9 * t ≤ 600000 by omega), (show 400000 + 3246 * t ≤ 7302250 by omega)⟩ (fun r12 E13 hq14 => ?_)
  obtain ⟨g2, h8, h9⟩ := hq14
  refine v_pop C dL_law_831 rfl ?_
  refine v_goto C 1288 dL_law_832 (by decide) ?_
  exact v_widen (by omega) (by omega) (kont _ _ _ _ _ _ _ _ h8 h9)
set_option maxRecDepth 20000 in
theorem lw_k19 {X : Mx} {l : Launch} {G : Gl} {A : Nat → Prop} (C : Cx X l G A "OddHoursLaw" code 4 ret room_1) {b L : Nat} {xs : Nat → Int32} (hX : va_X b L xs X.s X.s.heap) (hbl : b < X.s.heap.size) (hbA : ¬ A b) (hA : ∀ q, A q → X.s.heap.size ≤ q) (hlr : X.args = #[Value.ref b]) {t : Nat} {x : Int32} (hx : x.toInt = 6 * (t : Int)) (hL : 6 * t + 6 ≤ L) (hL0 : L ≤ 3072) (kont : ∀ (k : Nat) (ic md : Nat → Int32) (td kn : Int32) (fl : Nat → Int32) (ad : Nat → Nat) (E : Nat → va_E), C8 G ad k ic md td kn fl E → R9 G ad (98 + 9 * k) k ic md td kn fl E → V X G A 4 (lw_Z X.below #[Value.ref b] X.s) (98 + 9 * k) ad (1000 + 9 * (t + 1)) (400000 + 3246 * (t + 1)) E 1288 [(0, .ref b), (1, .ref (ad 0)), (2, .ref (ad 68)), (3, .int x)] []) {k : Nat} {ic md : Nat → Int32} {td kn : Int32} {fl : Nat → Int32} {ad : Nat → Nat} {E : Nat → va_E} (h8 : C8 G ad k ic md td kn fl E) (h9 : R9 G ad (98 + 9 * k) k ic md td kn fl E) : V X G A 4 (lw_Z X.below #[Value.ref b] X.s) (98 + 9 * k) ad (1000 + 9 * t) (400000 + 3246 * t) E 835 [(0, .ref b), (1, .ref (ad 0)), (2, .ref (ad 68)), (3, .int x)] [] := by
  refine v_aload_n C 1 dL_law_835 rfl rfl ?_
  refine v_aload_n C 0 dL_law_836 rfl rfl ?_
  refine v_iload_n C 3 dL_law_837 rfl rfl ?_
  refine v_iconst (v := 1) C dL_law_838 (by decide) ?_
  refine v_iadd C dL_law_839 ?_
  refine v_top (fun x1 ex1 => ?_)
  have hx1 : x1.toInt = ((6 * (t : Int)) + 1) := by rw [ex1]; exact ti_add hx (show (1 : Int32).toInt = 1 by decide) (by omega) (by omega)
  refine v_sld (v := xs (6 * t + 1)) C hX hbl hbA dL_law_840 (ti_in hx1 (by omega) (by omega)) (by rw [ti_cl hx1, show Int.toNat ((6 * (t : Int)) + 1) = 6 * t + 1 by omega]) ?_
  obtain ⟨io, hE0, -, -⟩ := id h8.2.2.1
  refine v_cVi C dL_law_841 lL_94 mX8_mix 0 (by omega) hE0 (by decide) rfl (a_mix l G ad h8 h9 (xs (6 * t + 1))) ⟨by decide, by decide⟩ rfl (Nat.le_of_ble_eq_true rfl) ⟨(show 1000 + 9 * t ≤ 600000 by omega), (show 400000 + 3246 * t ≤ 7302250 by omega)⟩ (fun r2 E3 hq4 => ?_)
  obtain ⟨h8, h9⟩ := hq4
  refine v_pop C dL_law_844 rfl ?_
  refine v_aload_n C 2 dL_law_845 rfl rfl ?_
  refine v_aload_n C 0 dL_law_846 rfl rfl ?_
  refine v_iload_n C 3 dL_law_847 rfl rfl ?_
  refine v_iconst (v := 1) C dL_law_848 (by decide) ?_
  refine v_iadd C dL_law_849 ?_
  refine v_top (fun x5 ex5 => ?_)
  have hx5 : x5.toInt = ((6 * (t : Int)) + 1) := by rw [ex5]; exact ti_add hx (show (1 : Int32).toInt = 1 by decide) (by omega) (by omega)
  refine v_sld (v := xs (6 * t + 1)) C hX hbl hbA dL_law_850 (ti_in hx5 (by omega) (by omega)) (by rw [ti_cl hx5, show Int.toNat ((6 * (t : Int)) + 1) = 6 * t + 1 by omega]) ?_
  obtain ⟨im, hM, -⟩ := id h9.1.1
  refine v_cVi C dL_law_851 lL_97 mX9_mix 68 (by omega) hM.2.2.1 (by decide) rfl (b_mix l G ad h8 h9 (xs (6 * t + 1))) ⟨by decide, by decide⟩ rfl (Nat.le_of_ble_eq_true rfl) ⟨(show 1000 + 9 * t ≤ 600000 by omega), (show 400000 + 3246 * t ≤ 7302250 by omega)⟩ (fun r6 E7 hq8 => ?_)
  obtain ⟨h8, h9⟩ := hq8
  refine v_pop C dL_law_854 rfl ?_
  refine v_goto C 1288 dL_law_855 (by decide) ?_
  exact v_widen (by omega) (by omega) (kont _ _ _ _ _ _ _ _ h8 h9)
set_option maxRecDepth 20000 in
theorem lw_k20 {X : Mx} {l : Launch} {G : Gl} {A : Nat → Prop} (C : Cx X l G A "OddHoursLaw" code 4 ret room_1) {b L : Nat} {xs : Nat → Int32} (hX : va_X b L xs X.s X.s.heap) (hbl : b < X.s.heap.size) (hbA : ¬ A b) (hA : ∀ q, A q → X.s.heap.size ≤ q) (hlr : X.args = #[Value.ref b]) {t : Nat} {x : Int32} (hx : x.toInt = 6 * (t : Int)) (hL : 6 * t + 6 ≤ L) (hL0 : L ≤ 3072) (kont : ∀ (k : Nat) (ic md : Nat → Int32) (td kn : Int32) (fl : Nat → Int32) (ad : Nat → Nat) (E : Nat → va_E), C8 G ad k ic md td kn fl E → R9 G ad (98 + 9 * k) k ic md td kn fl E → V X G A 4 (lw_Z X.below #[Value.ref b] X.s) (98 + 9 * k) ad (1000 + 9 * (t + 1)) (400000 + 3246 * (t + 1)) E 1288 [(0, .ref b), (1, .ref (ad 0)), (2, .ref (ad 68)), (3, .int x)] []) {k : Nat} {ic md : Nat → Int32} {td kn : Int32} {fl : Nat → Int32} {ad : Nat → Nat} {E : Nat → va_E} (h8 : C8 G ad k ic md td kn fl E) (h9 : R9 G ad (98 + 9 * k) k ic md td kn fl E) : V X G A 4 (lw_Z X.below #[Value.ref b] X.s) (98 + 9 * k) ad (1000 + 9 * t) (400000 + 3246 * t) E 858 [(0, .ref b), (1, .ref (ad 0)), (2, .ref (ad 68)), (3, .int x)] [] := by
  refine v_aload_n C 1 dL_law_858 rfl rfl ?_
  refine v_aload_n C 0 dL_law_859 rfl rfl ?_
  refine v_iload_n C 3 dL_law_860 rfl rfl ?_
  refine v_iconst (v := 1) C dL_law_861 (by decide) ?_
  refine v_iadd C dL_law_862 ?_
  refine v_top (fun x1 ex1 => ?_)
  have hx1 : x1.toInt = ((6 * (t : Int)) + 1) := by rw [ex1]; exact ti_add hx (show (1 : Int32).toInt = 1 by decide) (by omega) (by omega)
  refine v_sld (v := xs (6 * t + 1)) C hX hbl hbA dL_law_863 (ti_in hx1 (by omega) (by omega)) (by rw [ti_cl hx1, show Int.toNat ((6 * (t : Int)) + 1) = 6 * t + 1 by omega]) ?_
  obtain ⟨io, hE0, -, -⟩ := id h8.2.2.1
  refine v_cVi C dL_law_864 lL_98 mX8_kind 0 (by omega) hE0 (by decide) rfl (a_kind l G ad h8 h9 (xs (6 * t + 1))) ⟨by decide, by decide⟩ rfl (Nat.le_of_ble_eq_true rfl) ⟨(show 1000 + 9 * t ≤ 600000 by omega), (show 400000 + 3246 * t ≤ 7302250 by omega)⟩ (fun r2 E3 hq4 => ?_)
  obtain ⟨h8, h9⟩ := hq4
  refine v_pop C dL_law_867 rfl ?_
  refine v_aload_n C 2 dL_law_868 rfl rfl ?_
  refine v_aload_n C 0 dL_law_869 rfl rfl ?_
  refine v_iload_n C 3 dL_law_870 rfl rfl ?_
  refine v_iconst (v := 1) C dL_law_871 (by decide) ?_
  refine v_iadd C dL_law_872 ?_
  refine v_top (fun x5 ex5 => ?_)
  have hx5 : x5.toInt = ((6 * (t : Int)) + 1) := by rw [ex5]; exact ti_add hx (show (1 : Int32).toInt = 1 by decide) (by omega) (by omega)
  refine v_sld (v := xs (6 * t + 1)) C hX hbl hbA dL_law_873 (ti_in hx5 (by omega) (by omega)) (by rw [ti_cl hx5, show Int.toNat ((6 * (t : Int)) + 1) = 6 * t + 1 by omega]) ?_
  obtain ⟨im, hM, -⟩ := id h9.1.1
  refine v_cVi C dL_law_874 lL_101 mX9_kind 68 (by omega) hM.2.2.1 (by decide) rfl (b_kind l G ad h8 h9 (xs (6 * t + 1))) ⟨by decide, by decide⟩ rfl (Nat.le_of_ble_eq_true rfl) ⟨(show 1000 + 9 * t ≤ 600000 by omega), (show 400000 + 3246 * t ≤ 7302250 by omega)⟩ (fun r6 E7 hq8 => ?_)
  obtain ⟨h8, h9⟩ := hq8
  refine v_pop C dL_law_877 rfl ?_
  refine v_goto C 1288 dL_law_878 (by decide) ?_
  exact v_widen (by omega) (by omega) (kont _ _ _ _ _ _ _ _ h8 h9)
set_option maxRecDepth 20000 in
theorem lw_k21 {X : Mx} {l : Launch} {G : Gl} {A : Nat → Prop} (C : Cx X l G A "OddHoursLaw" code 4 ret room_1) {b L : Nat} {xs : Nat → Int32} (hX : va_X b L xs X.s X.s.heap) (hbl : b < X.s.heap.size) (hbA : ¬ A b) (hA : ∀ q, A q → X.s.heap.size ≤ q) (hlr : X.args = #[Value.ref b]) {t : Nat} {x : Int32} (hx : x.toInt = 6 * (t : Int)) (hL : 6 * t + 6 ≤ L) (hL0 : L ≤ 3072) (kont : ∀ (k : Nat) (ic md : Nat → Int32) (td kn : Int32) (fl : Nat → Int32) (ad : Nat → Nat) (E : Nat → va_E), C8 G ad k ic md td kn fl E → R9 G ad (98 + 9 * k) k ic md td kn fl E → V X G A 4 (lw_Z X.below #[Value.ref b] X.s) (98 + 9 * k) ad (1000 + 9 * (t + 1)) (400000 + 3246 * (t + 1)) E 1288 [(0, .ref b), (1, .ref (ad 0)), (2, .ref (ad 68)), (3, .int x)] []) {k : Nat} {ic md : Nat → Int32} {td kn : Int32} {fl : Nat → Int32} {ad : Nat → Nat} {E : Nat → va_E} (h8 : C8 G ad k ic md td kn fl E) (h9 : R9 G ad (98 + 9 * k) k ic md td kn fl E) : V X G A 4 (lw_Z X.below #[Value.ref b] X.s) (98 + 9 * k) ad (1000 + 9 * t) (400000 + 3246 * t) E 881 [(0, .ref b), (1, .ref (ad 0)), (2, .ref (ad 68)), (3, .int x)] [] := by
  refine v_aload_n C 1 dL_law_881 rfl rfl ?_
  refine v_aload_n C 0 dL_law_882 rfl rfl ?_
  refine v_iload_n C 3 dL_law_883 rfl rfl ?_
  refine v_iconst (v := 1) C dL_law_884 (by decide) ?_
  refine v_iadd C dL_law_885 ?_
  refine v_top (fun x1 ex1 => ?_)
  have hx1 : x1.toInt = ((6 * (t : Int)) + 1) := by rw [ex1]; exact ti_add hx (show (1 : Int32).toInt = 1 by decide) (by omega) (by omega)
  refine v_sld (v := xs (6 * t + 1)) C hX hbl hbA dL_law_886 (ti_in hx1 (by omega) (by omega)) (by rw [ti_cl hx1, show Int.toNat ((6 * (t : Int)) + 1) = 6 * t + 1 by omega]) ?_
  refine v_aload_n C 0 dL_law_887 rfl rfl ?_
  refine v_iload_n C 3 dL_law_888 rfl rfl ?_
  refine v_iconst (v := 2) C dL_law_889 (by decide) ?_
  refine v_iadd C dL_law_890 ?_
  refine v_top (fun x2 ex2 => ?_)
  have hx2 : x2.toInt = ((6 * (t : Int)) + 2) := by rw [ex2]; exact ti_add hx (show (2 : Int32).toInt = 2 by decide) (by omega) (by omega)
  refine v_sld (v := xs (6 * t + 2)) C hX hbl hbA dL_law_891 (ti_in hx2 (by omega) (by omega)) (by rw [ti_cl hx2, show Int.toNat ((6 * (t : Int)) + 2) = 6 * t + 2 by omega]) ?_
  obtain ⟨io, hE0, -, -⟩ := id h8.2.2.1
  refine v_cVi C dL_law_892 lL_102 mX8_run 0 (by omega) hE0 (by decide) rfl (a_run l G ad h8 h9 (xs (6 * t + 1)) (xs (6 * t + 2))) ⟨by decide, by decide⟩ rfl (Nat.le_of_ble_eq_true rfl) ⟨(show 1000 + 9 * t ≤ 600000 by omega), (show 400000 + 3246 * t ≤ 7302250 by omega)⟩ (fun r3 E4 hq5 => ?_)
  obtain ⟨h8, h9⟩ := hq5
  refine v_pop C dL_law_895 rfl ?_
  refine v_aload_n C 2 dL_law_896 rfl rfl ?_
  refine v_aload_n C 0 dL_law_897 rfl rfl ?_
  refine v_iload_n C 3 dL_law_898 rfl rfl ?_
  refine v_iconst (v := 1) C dL_law_899 (by decide) ?_
  refine v_iadd C dL_law_900 ?_
  refine v_top (fun x6 ex6 => ?_)
  have hx6 : x6.toInt = ((6 * (t : Int)) + 1) := by rw [ex6]; exact ti_add hx (show (1 : Int32).toInt = 1 by decide) (by omega) (by omega)
  refine v_sld (v := xs (6 * t + 1)) C hX hbl hbA dL_law_901 (ti_in hx6 (by omega) (by omega)) (by rw [ti_cl hx6, show Int.toNat ((6 * (t : Int)) + 1) = 6 * t + 1 by omega]) ?_
  refine v_aload_n C 0 dL_law_902 rfl rfl ?_
  refine v_iload_n C 3 dL_law_903 rfl rfl ?_
  refine v_iconst (v := 2) C dL_law_904 (by decide) ?_
  refine v_iadd C dL_law_905 ?_
  refine v_top (fun x7 ex7 => ?_)
  have hx7 : x7.toInt = ((6 * (t : Int)) + 2) := by rw [ex7]; exact ti_add hx (show (2 : Int32).toInt = 2 by decide) (by omega) (by omega)
  refine v_sld (v := xs (6 * t + 2)) C hX hbl hbA dL_law_906 (ti_in hx7 (by omega) (by omega)) (by rw [ti_cl hx7, show Int.toNat ((6 * (t : Int)) + 2) = 6 * t + 2 by omega]) ?_
  obtain ⟨im, hM, -⟩ := id h9.1.1
  refine v_cVi C dL_law_907 lL_105 mX9_run 68 (by omega) hM.2.2.1 (by decide) rfl (b_run l G ad h8 h9 (xs (6 * t + 1)) (xs (6 * t + 2))) ⟨by decide, by decide⟩ rfl (Nat.le_of_ble_eq_true rfl) ⟨(show 1000 + 9 * t ≤ 600000 by omega), (show 400000 + 3246 * t ≤ 7302250 by omega)⟩ (fun r8 E9 hq10 => ?_)
  obtain ⟨h8, h9⟩ := hq10
  refine v_pop C dL_law_910 rfl ?_
  refine v_goto C 1288 dL_law_911 (by decide) ?_
  exact v_widen (by omega) (by omega) (kont _ _ _ _ _ _ _ _ h8 h9)
set_option maxRecDepth 20000 in
theorem lw_k22 {X : Mx} {l : Launch} {G : Gl} {A : Nat → Prop} (C : Cx X l G A "OddHoursLaw" code 4 ret room_1) {b L : Nat} {xs : Nat → Int32} (hX : va_X b L xs X.s X.s.heap) (hbl : b < X.s.heap.size) (hbA : ¬ A b) (hA : ∀ q, A q → X.s.heap.size ≤ q) (hlr : X.args = #[Value.ref b]) {t : Nat} {x : Int32} (hx : x.toInt = 6 * (t : Int)) (hL : 6 * t + 6 ≤ L) (hL0 : L ≤ 3072) (kont : ∀ (k : Nat) (ic md : Nat → Int32) (td kn : Int32) (fl : Nat → Int32) (ad : Nat → Nat) (E : Nat → va_E), C8 G ad k ic md td kn fl E → R9 G ad (98 + 9 * k) k ic md td kn fl E → V X G A 4 (lw_Z X.below #[Value.ref b] X.s) (98 + 9 * k) ad (1000 + 9 * (t + 1)) (400000 + 3246 * (t + 1)) E 1288 [(0, .ref b), (1, .ref (ad 0)), (2, .ref (ad 68)), (3, .int x)] []) {k : Nat} {ic md : Nat → Int32} {td kn : Int32} {fl : Nat → Int32} {ad : Nat → Nat} {E : Nat → va_E} (h8 : C8 G ad k ic md td kn fl E) (h9 : R9 G ad (98 + 9 * k) k ic md td kn fl E) : V X G A 4 (lw_Z X.below #[Value.ref b] X.s) (98 + 9 * k) ad (1000 + 9 * t) (400000 + 3246 * t) E 914 [(0, .ref b), (1, .ref (ad 0)), (2, .ref (ad 68)), (3, .int x)] [] := by
  refine v_aload_n C 1 dL_law_914 rfl rfl ?_
  refine v_aload_n C 0 dL_law_915 rfl rfl ?_
  refine v_iload_n C 3 dL_law_916 rfl rfl ?_
  refine v_iconst (v := 1) C dL_law_917 (by decide) ?_
  refine v_iadd C dL_law_918 ?_
  refine v_top (fun x1 ex1 => ?_)
  have hx1 : x1.toInt = ((6 * (t : Int)) + 1) := by rw [ex1]; exact ti_add hx (show (1 : Int32).toInt = 1 by decide) (by omega) (by omega)
  refine v_sld (v := xs (6 * t + 1)) C hX hbl hbA dL_law_919 (ti_in hx1 (by omega) (by omega)) (by rw [ti_cl hx1, show Int.toNat ((6 * (t : Int)) + 1) = 6 * t + 1 by omega]) ?_
  refine v_aload_n C 0 dL_law_920 rfl rfl ?_
  refine v_iload_n C 3 dL_law_921 rfl rfl ?_
  refine v_iconst (v := 2) C dL_law_922 (by decide) ?_
  refine v_iadd C dL_law_923 ?_
  refine v_top (fun x2 ex2 => ?_)
  have hx2 : x2.toInt = ((6 * (t : Int)) + 2) := by rw [ex2]; exact ti_add hx (show (2 : Int32).toInt = 2 by decide) (by omega) (by omega)
  refine v_sld (v := xs (6 * t + 2)) C hX hbl hbA dL_law_924 (ti_in hx2 (by omega) (by omega)) (by rw [ti_cl hx2, show Int.toNat ((6 * (t : Int)) + 2) = 6 * t + 2 by omega]) ?_
  refine v_aload_n C 0 dL_law_925 rfl rfl ?_
  refine v_iload_n C 3 dL_law_926 rfl rfl ?_
  refine v_iconst (v := 3) C dL_law_927 (by decide) ?_
  refine v_iadd C dL_law_928 ?_
  refine v_top (fun x3 ex3 => ?_)
  have hx3 : x3.toInt = ((6 * (t : Int)) + 3) := by rw [ex3]; exact ti_add hx (show (3 : Int32).toInt = 3 by decide) (by omega) (by omega)
  refine v_sld (v := xs (6 * t + 3)) C hX hbl hbA dL_law_929 (ti_in hx3 (by omega) (by omega)) (by rw [ti_cl hx3, show Int.toNat ((6 * (t : Int)) + 3) = 6 * t + 3 by omega]) ?_
  refine v_aload_n C 0 dL_law_930 rfl rfl ?_
  refine v_iload_n C 3 dL_law_931 rfl rfl ?_
  refine v_iconst (v := 4) C dL_law_932 (by decide) ?_
  refine v_iadd C dL_law_933 ?_
  refine v_top (fun x4 ex4 => ?_)
  have hx4 : x4.toInt = ((6 * (t : Int)) + 4) := by rw [ex4]; exact ti_add hx (show (4 : Int32).toInt = 4 by decide) (by omega) (by omega)
  refine v_sld (v := xs (6 * t + 4)) C hX hbl hbA dL_law_934 (ti_in hx4 (by omega) (by omega)) (by rw [ti_cl hx4, show Int.toNat ((6 * (t : Int)) + 4) = 6 * t + 4 by omega]) ?_
  obtain ⟨io, hE0, -, -⟩ := id h8.2.2.1
  refine v_cVi C dL_law_935 lL_106 mX8_keeps 0 (by omega) hE0 (by decide) rfl (a_keeps l G ad h8 h9 (xs (6 * t + 1)) (xs (6 * t + 2)) (xs (6 * t + 3)) (xs (6 * t + 4))) ⟨by decide, by decide⟩ rfl (Nat.le_of_ble_eq_true rfl) ⟨(show 1000 + 9 * t ≤ 600000 by omega), (show 400000 + 3246 * t ≤ 7302250 by omega)⟩ (fun r5 E6 hq7 => ?_)
  obtain ⟨h8, h9⟩ := hq7
  refine v_pop C dL_law_938 rfl ?_
  refine v_aload_n C 2 dL_law_939 rfl rfl ?_
  refine v_aload_n C 0 dL_law_940 rfl rfl ?_
  refine v_iload_n C 3 dL_law_941 rfl rfl ?_
  refine v_iconst (v := 1) C dL_law_942 (by decide) ?_
  refine v_iadd C dL_law_943 ?_
  refine v_top (fun x8 ex8 => ?_)
  have hx8 : x8.toInt = ((6 * (t : Int)) + 1) := by rw [ex8]; exact ti_add hx (show (1 : Int32).toInt = 1 by decide) (by omega) (by omega)
  refine v_sld (v := xs (6 * t + 1)) C hX hbl hbA dL_law_944 (ti_in hx8 (by omega) (by omega)) (by rw [ti_cl hx8, show Int.toNat ((6 * (t : Int)) + 1) = 6 * t + 1 by omega]) ?_
  refine v_aload_n C 0 dL_law_945 rfl rfl ?_
  refine v_iload_n C 3 dL_law_946 rfl rfl ?_
  refine v_iconst (v := 2) C dL_law_947 (by decide) ?_
  refine v_iadd C dL_law_948 ?_
  refine v_top (fun x9 ex9 => ?_)
  have hx9 : x9.toInt = ((6 * (t : Int)) + 2) := by rw [ex9]; exact ti_add hx (show (2 : Int32).toInt = 2 by decide) (by omega) (by omega)
  refine v_sld (v := xs (6 * t + 2)) C hX hbl hbA dL_law_949 (ti_in hx9 (by omega) (by omega)) (by rw [ti_cl hx9, show Int.toNat ((6 * (t : Int)) + 2) = 6 * t + 2 by omega]) ?_
  refine v_aload_n C 0 dL_law_950 rfl rfl ?_
  refine v_iload_n C 3 dL_law_951 rfl rfl ?_
  refine v_iconst (v := 3) C dL_law_952 (by decide) ?_
  refine v_iadd C dL_law_953 ?_
  refine v_top (fun x10 ex10 => ?_)
  have hx10 : x10.toInt = ((6 * (t : Int)) + 3) := by rw [ex10]; exact ti_add hx (show (3 : Int32).toInt = 3 by decide) (by omega) (by omega)
  refine v_sld (v := xs (6 * t + 3)) C hX hbl hbA dL_law_954 (ti_in hx10 (by omega) (by omega)) (by rw [ti_cl hx10, show Int.toNat ((6 * (t : Int)) + 3) = 6 * t + 3 by omega]) ?_
  refine v_aload_n C 0 dL_law_955 rfl rfl ?_
  refine v_iload_n C 3 dL_law_956 rfl rfl ?_
  refine v_iconst (v := 4) C dL_law_957 (by decide) ?_
  refine v_iadd C dL_law_958 ?_
  refine v_top (fun x11 ex11 => ?_)
  have hx11 : x11.toInt = ((6 * (t : Int)) + 4) := by rw [ex11]; exact ti_add hx (show (4 : Int32).toInt = 4 by decide) (by omega) (by omega)
  refine v_sld (v := xs (6 * t + 4)) C hX hbl hbA dL_law_959 (ti_in hx11 (by omega) (by omega)) (by rw [ti_cl hx11, show Int.toNat ((6 * (t : Int)) + 4) = 6 * t + 4 by omega]) ?_
  obtain ⟨im, hM, -⟩ := id h9.1.1
  refine v_cVi C dL_law_960 lL_109 mX9_keeps 68 (by omega) hM.2.2.1 (by decide) rfl (b_keeps l G ad h8 h9 (xs (6 * t + 1)) (xs (6 * t + 2)) (xs (6 * t + 3)) (xs (6 * t + 4))) ⟨by decide, by decide⟩ rfl (Nat.le_of_ble_eq_true rfl) ⟨(show 1000 + 9 * t ≤ 600000 by omega), (show 400000 + 3246 * t ≤ 7302250 by omega)⟩ (fun r12 E13 hq14 => ?_)
  obtain ⟨h8, h9⟩ := hq14
  refine v_pop C dL_law_963 rfl ?_
  refine v_goto C 1288 dL_law_964 (by decide) ?_
  exact v_widen (by omega) (by omega) (kont _ _ _ _ _ _ _ _ h8 h9)
set_option maxRecDepth 20000 in
theorem lw_k23 {X : Mx} {l : Launch} {G : Gl} {A : Nat → Prop} (C : Cx X l G A "OddHoursLaw" code 4 ret room_1) {b L : Nat} {xs : Nat → Int32} (hX : va_X b L xs X.s X.s.heap) (hbl : b < X.s.heap.size) (hbA : ¬ A b) (hA : ∀ q, A q → X.s.heap.size ≤ q) (hlr : X.args = #[Value.ref b]) {t : Nat} {x : Int32} (hx : x.toInt = 6 * (t : Int)) (hL : 6 * t + 6 ≤ L) (hL0 : L ≤ 3072) (kont : ∀ (k : Nat) (ic md : Nat → Int32) (td kn : Int32) (fl : Nat → Int32) (ad : Nat → Nat) (E : Nat → va_E), C8 G ad k ic md td kn fl E → R9 G ad (98 + 9 * k) k ic md td kn fl E → V X G A 4 (lw_Z X.below #[Value.ref b] X.s) (98 + 9 * k) ad (1000 + 9 * (t + 1)) (400000 + 3246 * (t + 1)) E 1288 [(0, .ref b), (1, .ref (ad 0)), (2, .ref (ad 68)), (3, .int x)] []) {k : Nat} {ic md : Nat → Int32} {td kn : Int32} {fl : Nat → Int32} {ad : Nat → Nat} {E : Nat → va_E} (h8 : C8 G ad k ic md td kn fl E) (h9 : R9 G ad (98 + 9 * k) k ic md td kn fl E) : V X G A 4 (lw_Z X.below #[Value.ref b] X.s) (98 + 9 * k) ad (1000 + 9 * t) (400000 + 3246 * t) E 967 [(0, .ref b), (1, .ref (ad 0)), (2, .ref (ad 68)), (3, .int x)] [] := by
  refine v_aload_n C 1 dL_law_967 rfl rfl ?_
  refine v_aload_n C 0 dL_law_968 rfl rfl ?_
  refine v_iload_n C 3 dL_law_969 rfl rfl ?_
  refine v_iconst (v := 1) C dL_law_970 (by decide) ?_
  refine v_iadd C dL_law_971 ?_
  refine v_top (fun x1 ex1 => ?_)
  have hx1 : x1.toInt = ((6 * (t : Int)) + 1) := by rw [ex1]; exact ti_add hx (show (1 : Int32).toInt = 1 by decide) (by omega) (by omega)
  refine v_sld (v := xs (6 * t + 1)) C hX hbl hbA dL_law_972 (ti_in hx1 (by omega) (by omega)) (by rw [ti_cl hx1, show Int.toNat ((6 * (t : Int)) + 1) = 6 * t + 1 by omega]) ?_
  refine v_aload_n C 0 dL_law_973 rfl rfl ?_
  refine v_iload_n C 3 dL_law_974 rfl rfl ?_
  refine v_iconst (v := 2) C dL_law_975 (by decide) ?_
  refine v_iadd C dL_law_976 ?_
  refine v_top (fun x2 ex2 => ?_)
  have hx2 : x2.toInt = ((6 * (t : Int)) + 2) := by rw [ex2]; exact ti_add hx (show (2 : Int32).toInt = 2 by decide) (by omega) (by omega)
  refine v_sld (v := xs (6 * t + 2)) C hX hbl hbA dL_law_977 (ti_in hx2 (by omega) (by omega)) (by rw [ti_cl hx2, show Int.toNat ((6 * (t : Int)) + 2) = 6 * t + 2 by omega]) ?_
  obtain ⟨io, hE0, -, -⟩ := id h8.2.2.1
  refine v_cVi C dL_law_978 lL_110 mX8_odds 0 (by omega) hE0 (by decide) rfl (a_odds l G ad h8 h9 (xs (6 * t + 1)) (xs (6 * t + 2))) ⟨by decide, by decide⟩ rfl (Nat.le_of_ble_eq_true rfl) ⟨(show 1000 + 9 * t ≤ 600000 by omega), (show 400000 + 3246 * t ≤ 7302250 by omega)⟩ (fun r3 E4 hq5 => ?_)
  obtain ⟨h8, h9⟩ := hq5
  refine v_pop C dL_law_981 rfl ?_
  refine v_aload_n C 2 dL_law_982 rfl rfl ?_
  refine v_aload_n C 0 dL_law_983 rfl rfl ?_
  refine v_iload_n C 3 dL_law_984 rfl rfl ?_
  refine v_iconst (v := 1) C dL_law_985 (by decide) ?_
  refine v_iadd C dL_law_986 ?_
  refine v_top (fun x6 ex6 => ?_)
  have hx6 : x6.toInt = ((6 * (t : Int)) + 1) := by rw [ex6]; exact ti_add hx (show (1 : Int32).toInt = 1 by decide) (by omega) (by omega)
  refine v_sld (v := xs (6 * t + 1)) C hX hbl hbA dL_law_987 (ti_in hx6 (by omega) (by omega)) (by rw [ti_cl hx6, show Int.toNat ((6 * (t : Int)) + 1) = 6 * t + 1 by omega]) ?_
  refine v_aload_n C 0 dL_law_988 rfl rfl ?_
  refine v_iload_n C 3 dL_law_989 rfl rfl ?_
  refine v_iconst (v := 2) C dL_law_990 (by decide) ?_
  refine v_iadd C dL_law_991 ?_
  refine v_top (fun x7 ex7 => ?_)
  have hx7 : x7.toInt = ((6 * (t : Int)) + 2) := by rw [ex7]; exact ti_add hx (show (2 : Int32).toInt = 2 by decide) (by omega) (by omega)
  refine v_sld (v := xs (6 * t + 2)) C hX hbl hbA dL_law_992 (ti_in hx7 (by omega) (by omega)) (by rw [ti_cl hx7, show Int.toNat ((6 * (t : Int)) + 2) = 6 * t + 2 by omega]) ?_
  obtain ⟨im, hM, -⟩ := id h9.1.1
  refine v_cVi C dL_law_993 lL_113 mX9_odds 68 (by omega) hM.2.2.1 (by decide) rfl (b_odds l G ad h8 h9 (xs (6 * t + 1)) (xs (6 * t + 2))) ⟨by decide, by decide⟩ rfl (Nat.le_of_ble_eq_true rfl) ⟨(show 1000 + 9 * t ≤ 600000 by omega), (show 400000 + 3246 * t ≤ 7302250 by omega)⟩ (fun r8 E9 hq10 => ?_)
  obtain ⟨h8, h9⟩ := hq10
  refine v_pop C dL_law_996 rfl ?_
  refine v_goto C 1288 dL_law_997 (by decide) ?_
  exact v_widen (by omega) (by omega) (kont _ _ _ _ _ _ _ _ h8 h9)
set_option maxRecDepth 20000 in
theorem lw_k24 {X : Mx} {l : Launch} {G : Gl} {A : Nat → Prop} (C : Cx X l G A "OddHoursLaw" code 4 ret room_1) {b L : Nat} {xs : Nat → Int32} (hX : va_X b L xs X.s X.s.heap) (hbl : b < X.s.heap.size) (hbA : ¬ A b) (hA : ∀ q, A q → X.s.heap.size ≤ q) (hlr : X.args = #[Value.ref b]) {t : Nat} {x : Int32} (hx : x.toInt = 6 * (t : Int)) (hL : 6 * t + 6 ≤ L) (hL0 : L ≤ 3072) (kont : ∀ (k : Nat) (ic md : Nat → Int32) (td kn : Int32) (fl : Nat → Int32) (ad : Nat → Nat) (E : Nat → va_E), C8 G ad k ic md td kn fl E → R9 G ad (98 + 9 * k) k ic md td kn fl E → V X G A 4 (lw_Z X.below #[Value.ref b] X.s) (98 + 9 * k) ad (1000 + 9 * (t + 1)) (400000 + 3246 * (t + 1)) E 1288 [(0, .ref b), (1, .ref (ad 0)), (2, .ref (ad 68)), (3, .int x)] []) {k : Nat} {ic md : Nat → Int32} {td kn : Int32} {fl : Nat → Int32} {ad : Nat → Nat} {E : Nat → va_E} (h8 : C8 G ad k ic md td kn fl E) (h9 : R9 G ad (98 + 9 * k) k ic md td kn fl E) : V X G A 4 (lw_Z X.below #[Value.ref b] X.s) (98 + 9 * k) ad (1000 + 9 * t) (400000 + 3246 * t) E 1000 [(0, .ref b), (1, .ref (ad 0)), (2, .ref (ad 68)), (3, .int x)] [] := by
  refine v_aload_n C 1 dL_law_1000 rfl rfl ?_
  refine v_aload_n C 0 dL_law_1001 rfl rfl ?_
  refine v_iload_n C 3 dL_law_1002 rfl rfl ?_
  refine v_iconst (v := 1) C dL_law_1003 (by decide) ?_
  refine v_iadd C dL_law_1004 ?_
  refine v_top (fun x1 ex1 => ?_)
  have hx1 : x1.toInt = ((6 * (t : Int)) + 1) := by rw [ex1]; exact ti_add hx (show (1 : Int32).toInt = 1 by decide) (by omega) (by omega)
  refine v_sld (v := xs (6 * t + 1)) C hX hbl hbA dL_law_1005 (ti_in hx1 (by omega) (by omega)) (by rw [ti_cl hx1, show Int.toNat ((6 * (t : Int)) + 1) = 6 * t + 1 by omega]) ?_
  refine v_aload_n C 0 dL_law_1006 rfl rfl ?_
  refine v_iload_n C 3 dL_law_1007 rfl rfl ?_
  refine v_iconst (v := 2) C dL_law_1008 (by decide) ?_
  refine v_iadd C dL_law_1009 ?_
  refine v_top (fun x2 ex2 => ?_)
  have hx2 : x2.toInt = ((6 * (t : Int)) + 2) := by rw [ex2]; exact ti_add hx (show (2 : Int32).toInt = 2 by decide) (by omega) (by omega)
  refine v_sld (v := xs (6 * t + 2)) C hX hbl hbA dL_law_1010 (ti_in hx2 (by omega) (by omega)) (by rw [ti_cl hx2, show Int.toNat ((6 * (t : Int)) + 2) = 6 * t + 2 by omega]) ?_
  refine v_aload_n C 0 dL_law_1011 rfl rfl ?_
  refine v_iload_n C 3 dL_law_1012 rfl rfl ?_
  refine v_iconst (v := 3) C dL_law_1013 (by decide) ?_
  refine v_iadd C dL_law_1014 ?_
  refine v_top (fun x3 ex3 => ?_)
  have hx3 : x3.toInt = ((6 * (t : Int)) + 3) := by rw [ex3]; exact ti_add hx (show (3 : Int32).toInt = 3 by decide) (by omega) (by omega)
  refine v_sld (v := xs (6 * t + 3)) C hX hbl hbA dL_law_1015 (ti_in hx3 (by omega) (by omega)) (by rw [ti_cl hx3, show Int.toNat ((6 * (t : Int)) + 3) = 6 * t + 3 by omega]) ?_
  obtain ⟨io, hE0, -, -⟩ := id h8.2.2.1
  refine v_cVi C dL_law_1016 lL_114 mX8_odd 0 (by omega) hE0 (by decide) rfl (a_odd l G ad h8 h9 (xs (6 * t + 1)) (xs (6 * t + 2)) (xs (6 * t + 3))) ⟨by decide, by decide⟩ rfl (Nat.le_of_ble_eq_true rfl) ⟨(show 1000 + 9 * t ≤ 600000 by omega), (show 400000 + 3246 * t ≤ 7302250 by omega)⟩ (fun r4 E5 hq6 => ?_)
  obtain ⟨h8, h9⟩ := hq6
  refine v_pop C dL_law_1019 rfl ?_
  refine v_aload_n C 2 dL_law_1020 rfl rfl ?_
  refine v_aload_n C 0 dL_law_1021 rfl rfl ?_
  refine v_iload_n C 3 dL_law_1022 rfl rfl ?_
  refine v_iconst (v := 1) C dL_law_1023 (by decide) ?_
  refine v_iadd C dL_law_1024 ?_
  refine v_top (fun x7 ex7 => ?_)
  have hx7 : x7.toInt = ((6 * (t : Int)) + 1) := by rw [ex7]; exact ti_add hx (show (1 : Int32).toInt = 1 by decide) (by omega) (by omega)
  refine v_sld (v := xs (6 * t + 1)) C hX hbl hbA dL_law_1025 (ti_in hx7 (by omega) (by omega)) (by rw [ti_cl hx7, show Int.toNat ((6 * (t : Int)) + 1) = 6 * t + 1 by omega]) ?_
  refine v_aload_n C 0 dL_law_1026 rfl rfl ?_
  refine v_iload_n C 3 dL_law_1027 rfl rfl ?_
  refine v_iconst (v := 2) C dL_law_1028 (by decide) ?_
  refine v_iadd C dL_law_1029 ?_
  refine v_top (fun x8 ex8 => ?_)
  have hx8 : x8.toInt = ((6 * (t : Int)) + 2) := by rw [ex8]; exact ti_add hx (show (2 : Int32).toInt = 2 by decide) (by omega) (by omega)
  refine v_sld (v := xs (6 * t + 2)) C hX hbl hbA dL_law_1030 (ti_in hx8 (by omega) (by omega)) (by rw [ti_cl hx8, show Int.toNat ((6 * (t : Int)) + 2) = 6 * t + 2 by omega]) ?_
  refine v_aload_n C 0 dL_law_1031 rfl rfl ?_
  refine v_iload_n C 3 dL_law_1032 rfl rfl ?_
  refine v_iconst (v := 3) C dL_law_1033 (by decide) ?_
  refine v_iadd C dL_law_1034 ?_
  refine v_top (fun x9 ex9 => ?_)
  have hx9 : x9.toInt = ((6 * (t : Int)) + 3) := by rw [ex9]; exact ti_add hx (show (3 : Int32).toInt = 3 by decide) (by omega) (by omega)
  refine v_sld (v := xs (6 * t + 3)) C hX hbl hbA dL_law_1035 (ti_in hx9 (by omega) (by omega)) (by rw [ti_cl hx9, show Int.toNat ((6 * (t : Int)) + 3) = 6 * t + 3 by omega]) ?_
  obtain ⟨im, hM, -⟩ := id h9.1.1
  refine v_cVi C dL_law_1036 lL_117 mX9_odd 68 (by omega) hM.2.2.1 (by decide) rfl (b_odd l G ad h8 h9 (xs (6 * t + 1)) (xs (6 * t + 2)) (xs (6 * t + 3))) ⟨by decide, by decide⟩ rfl (Nat.le_of_ble_eq_true rfl) ⟨(show 1000 + 9 * t ≤ 600000 by omega), (show 400000 + 3246 * t ≤ 7302250 by omega)⟩ (fun r10 E11 hq12 => ?_)
  obtain ⟨h8, h9⟩ := hq12
  refine v_pop C dL_law_1039 rfl ?_
  refine v_goto C 1288 dL_law_1040 (by decide) ?_
  exact v_widen (by omega) (by omega) (kont _ _ _ _ _ _ _ _ h8 h9)
set_option maxRecDepth 20000 in
theorem lw_k25 {X : Mx} {l : Launch} {G : Gl} {A : Nat → Prop} (C : Cx X l G A "OddHoursLaw" code 4 ret room_1) {b L : Nat} {xs : Nat → Int32} (hX : va_X b L xs X.s X.s.heap) (hbl : b < X.s.heap.size) (hbA : ¬ A b) (hA : ∀ q, A q → X.s.heap.size ≤ q) (hlr : X.args = #[Value.ref b]) {t : Nat} {x : Int32} (hx : x.toInt = 6 * (t : Int)) (hL : 6 * t + 6 ≤ L) (hL0 : L ≤ 3072) (kont : ∀ (k : Nat) (ic md : Nat → Int32) (td kn : Int32) (fl : Nat → Int32) (ad : Nat → Nat) (E : Nat → va_E), C8 G ad k ic md td kn fl E → R9 G ad (98 + 9 * k) k ic md td kn fl E → V X G A 4 (lw_Z X.below #[Value.ref b] X.s) (98 + 9 * k) ad (1000 + 9 * (t + 1)) (400000 + 3246 * (t + 1)) E 1288 [(0, .ref b), (1, .ref (ad 0)), (2, .ref (ad 68)), (3, .int x)] []) {k : Nat} {ic md : Nat → Int32} {td kn : Int32} {fl : Nat → Int32} {ad : Nat → Nat} {E : Nat → va_E} (h8 : C8 G ad k ic md td kn fl E) (h9 : R9 G ad (98 + 9 * k) k ic md td kn fl E) : V X G A 4 (lw_Z X.below #[Value.ref b] X.s) (98 + 9 * k) ad (1000 + 9 * t) (400000 + 3246 * t) E 1043 [(0, .ref b), (1, .ref (ad 0)), (2, .ref (ad 68)), (3, .int x)] [] := by
  refine v_aload_n C 1 dL_law_1043 rfl rfl ?_
  refine v_aload_n C 0 dL_law_1044 rfl rfl ?_
  refine v_iload_n C 3 dL_law_1045 rfl rfl ?_
  refine v_iconst (v := 1) C dL_law_1046 (by decide) ?_
  refine v_iadd C dL_law_1047 ?_
  refine v_top (fun x1 ex1 => ?_)
  have hx1 : x1.toInt = ((6 * (t : Int)) + 1) := by rw [ex1]; exact ti_add hx (show (1 : Int32).toInt = 1 by decide) (by omega) (by omega)
  refine v_sld (v := xs (6 * t + 1)) C hX hbl hbA dL_law_1048 (ti_in hx1 (by omega) (by omega)) (by rw [ti_cl hx1, show Int.toNat ((6 * (t : Int)) + 1) = 6 * t + 1 by omega]) ?_
  refine v_aload_n C 0 dL_law_1049 rfl rfl ?_
  refine v_iload_n C 3 dL_law_1050 rfl rfl ?_
  refine v_iconst (v := 2) C dL_law_1051 (by decide) ?_
  refine v_iadd C dL_law_1052 ?_
  refine v_top (fun x2 ex2 => ?_)
  have hx2 : x2.toInt = ((6 * (t : Int)) + 2) := by rw [ex2]; exact ti_add hx (show (2 : Int32).toInt = 2 by decide) (by omega) (by omega)
  refine v_sld (v := xs (6 * t + 2)) C hX hbl hbA dL_law_1053 (ti_in hx2 (by omega) (by omega)) (by rw [ti_cl hx2, show Int.toNat ((6 * (t : Int)) + 2) = 6 * t + 2 by omega]) ?_
  refine v_aload_n C 0 dL_law_1054 rfl rfl ?_
  refine v_iload_n C 3 dL_law_1055 rfl rfl ?_
  refine v_iconst (v := 3) C dL_law_1056 (by decide) ?_
  refine v_iadd C dL_law_1057 ?_
  refine v_top (fun x3 ex3 => ?_)
  have hx3 : x3.toInt = ((6 * (t : Int)) + 3) := by rw [ex3]; exact ti_add hx (show (3 : Int32).toInt = 3 by decide) (by omega) (by omega)
  refine v_sld (v := xs (6 * t + 3)) C hX hbl hbA dL_law_1058 (ti_in hx3 (by omega) (by omega)) (by rw [ti_cl hx3, show Int.toNat ((6 * (t : Int)) + 3) = 6 * t + 3 by omega]) ?_
  refine v_aload_n C 0 dL_law_1059 rfl rfl ?_
  refine v_iload_n C 3 dL_law_1060 rfl rfl ?_
  refine v_iconst (v := 4) C dL_law_1061 (by decide) ?_
  refine v_iadd C dL_law_1062 ?_
  refine v_top (fun x4 ex4 => ?_)
  have hx4 : x4.toInt = ((6 * (t : Int)) + 4) := by rw [ex4]; exact ti_add hx (show (4 : Int32).toInt = 4 by decide) (by omega) (by omega)
  refine v_sld (v := xs (6 * t + 4)) C hX hbl hbA dL_law_1063 (ti_in hx4 (by omega) (by omega)) (by rw [ti_cl hx4, show Int.toNat ((6 * (t : Int)) + 4) = 6 * t + 4 by omega]) ?_
  refine v_aload_n C 0 dL_law_1064 rfl rfl ?_
  refine v_iload_n C 3 dL_law_1065 rfl rfl ?_
  refine v_iconst (v := 5) C dL_law_1066 (by decide) ?_
  refine v_iadd C dL_law_1067 ?_
  refine v_top (fun x5 ex5 => ?_)
  have hx5 : x5.toInt = ((6 * (t : Int)) + 5) := by rw [ex5]; exact ti_add hx (show (5 : Int32).toInt = 5 by decide) (by omega) (by omega)
  refine v_sld (v := xs (6 * t + 5)) C hX hbl hbA dL_law_1068 (ti_in hx5 (by omega) (by omega)) (by rw [ti_cl hx5, show Int.toNat ((6 * (t : Int)) + 5) = 6 * t + 5 by omega]) ?_
  obtain ⟨io, hE0, -, -⟩ := id h8.2.2.1
  refine v_cVi C dL_law_1069 lL_118 mX8_least 0 (by omega) hE0 (by decide) rfl (a_least l G ad h8 h9 (xs (6 * t + 1)) (xs (6 * t + 2)) (xs (6 * t + 3)) (xs (6 * t + 4)) (xs (6 * t + 5))) ⟨by decide, by decide⟩ rfl (Nat.le_of_ble_eq_true rfl) ⟨(show 1000 + 9 * t ≤ 600000 by omega), (show 400000 + 3246 * t ≤ 7302250 by omega)⟩ (fun r6 E7 hq8 => ?_)
  obtain ⟨h8, h9⟩ := hq8
  refine v_pop C dL_law_1072 rfl ?_
  refine v_aload_n C 2 dL_law_1073 rfl rfl ?_
  refine v_aload_n C 0 dL_law_1074 rfl rfl ?_
  refine v_iload_n C 3 dL_law_1075 rfl rfl ?_
  refine v_iconst (v := 1) C dL_law_1076 (by decide) ?_
  refine v_iadd C dL_law_1077 ?_
  refine v_top (fun x9 ex9 => ?_)
  have hx9 : x9.toInt = ((6 * (t : Int)) + 1) := by rw [ex9]; exact ti_add hx (show (1 : Int32).toInt = 1 by decide) (by omega) (by omega)
  refine v_sld (v := xs (6 * t + 1)) C hX hbl hbA dL_law_1078 (ti_in hx9 (by omega) (by omega)) (by rw [ti_cl hx9, show Int.toNat ((6 * (t : Int)) + 1) = 6 * t + 1 by omega]) ?_
  refine v_aload_n C 0 dL_law_1079 rfl rfl ?_
  refine v_iload_n C 3 dL_law_1080 rfl rfl ?_
  refine v_iconst (v := 2) C dL_law_1081 (by decide) ?_
  refine v_iadd C dL_law_1082 ?_
  refine v_top (fun x10 ex10 => ?_)
  have hx10 : x10.toInt = ((6 * (t : Int)) + 2) := by rw [ex10]; exact ti_add hx (show (2 : Int32).toInt = 2 by decide) (by omega) (by omega)
  refine v_sld (v := xs (6 * t + 2)) C hX hbl hbA dL_law_1083 (ti_in hx10 (by omega) (by omega)) (by rw [ti_cl hx10, show Int.toNat ((6 * (t : Int)) + 2) = 6 * t + 2 by omega]) ?_
  refine v_aload_n C 0 dL_law_1084 rfl rfl ?_
  refine v_iload_n C 3 dL_law_1085 rfl rfl ?_
  refine v_iconst (v := 3) C dL_law_1086 (by decide) ?_
  refine v_iadd C dL_law_1087 ?_
  refine v_top (fun x11 ex11 => ?_)
  have hx11 : x11.toInt = ((6 * (t : Int)) + 3) := by rw [ex11]; exact ti_add hx (show (3 : Int32).toInt = 3 by decide) (by omega) (by omega)
  refine v_sld (v := xs (6 * t + 3)) C hX hbl hbA dL_law_1088 (ti_in hx11 (by omega) (by omega)) (by rw [ti_cl hx11, show Int.toNat ((6 * (t : Int)) + 3) = 6 * t + 3 by omega]) ?_
  refine v_aload_n C 0 dL_law_1089 rfl rfl ?_
  refine v_iload_n C 3 dL_law_1090 rfl rfl ?_
  refine v_iconst (v := 4) C dL_law_1091 (by decide) ?_
  refine v_iadd C dL_law_1092 ?_
  refine v_top (fun x12 ex12 => ?_)
  have hx12 : x12.toInt = ((6 * (t : Int)) + 4) := by rw [ex12]; exact ti_add hx (show (4 : Int32).toInt = 4 by decide) (by omega) (by omega)
  refine v_sld (v := xs (6 * t + 4)) C hX hbl hbA dL_law_1093 (ti_in hx12 (by omega) (by omega)) (by rw [ti_cl hx12, show Int.toNat ((6 * (t : Int)) + 4) = 6 * t + 4 by omega]) ?_
  refine v_aload_n C 0 dL_law_1094 rfl rfl ?_
  refine v_iload_n C 3 dL_law_1095 rfl rfl ?_
  refine v_iconst (v := 5) C dL_law_1096 (by decide) ?_
  refine v_iadd C dL_law_1097 ?_
  refine v_top (fun x13 ex13 => ?_)
  have hx13 : x13.toInt = ((6 * (t : Int)) + 5) := by rw [ex13]; exact ti_add hx (show (5 : Int32).toInt = 5 by decide) (by omega) (by omega)
  refine v_sld (v := xs (6 * t + 5)) C hX hbl hbA dL_law_1098 (ti_in hx13 (by omega) (by omega)) (by rw [ti_cl hx13, show Int.toNat ((6 * (t : Int)) + 5) = 6 * t + 5 by omega]) ?_
  obtain ⟨im, hM, -⟩ := id h9.1.1
  refine v_cVi C dL_law_1099 lL_121 mX9_least 68 (by omega) hM.2.2.1 (by decide) rfl (b_least l G ad h8 h9 (xs (6 * t + 1)) (xs (6 * t + 2)) (xs (6 * t + 3)) (xs (6 * t + 4)) (xs (6 * t + 5))) ⟨by decide, by decide⟩ rfl (Nat.le_of_ble_eq_true rfl) ⟨(show 1000 + 9 * t ≤ 600000 by omega), (show 400000 + 3246 * t ≤ 7302250 by omega)⟩ (fun r14 E15 hq16 => ?_)
  obtain ⟨h8, h9⟩ := hq16
  refine v_pop C dL_law_1102 rfl ?_
  refine v_goto C 1288 dL_law_1103 (by decide) ?_
  exact v_widen (by omega) (by omega) (kont _ _ _ _ _ _ _ _ h8 h9)
set_option maxRecDepth 20000 in
theorem lw_k26 {X : Mx} {l : Launch} {G : Gl} {A : Nat → Prop} (C : Cx X l G A "OddHoursLaw" code 4 ret room_1) {b L : Nat} {xs : Nat → Int32} (hX : va_X b L xs X.s X.s.heap) (hbl : b < X.s.heap.size) (hbA : ¬ A b) (hA : ∀ q, A q → X.s.heap.size ≤ q) (hlr : X.args = #[Value.ref b]) {t : Nat} {x : Int32} (hx : x.toInt = 6 * (t : Int)) (hL : 6 * t + 6 ≤ L) (hL0 : L ≤ 3072) (kont : ∀ (k : Nat) (ic md : Nat → Int32) (td kn : Int32) (fl : Nat → Int32) (ad : Nat → Nat) (E : Nat → va_E), C8 G ad k ic md td kn fl E → R9 G ad (98 + 9 * k) k ic md td kn fl E → V X G A 4 (lw_Z X.below #[Value.ref b] X.s) (98 + 9 * k) ad (1000 + 9 * (t + 1)) (400000 + 3246 * (t + 1)) E 1288 [(0, .ref b), (1, .ref (ad 0)), (2, .ref (ad 68)), (3, .int x)] []) {k : Nat} {ic md : Nat → Int32} {td kn : Int32} {fl : Nat → Int32} {ad : Nat → Nat} {E : Nat → va_E} (h8 : C8 G ad k ic md td kn fl E) (h9 : R9 G ad (98 + 9 * k) k ic md td kn fl E) : V X G A 4 (lw_Z X.below #[Value.ref b] X.s) (98 + 9 * k) ad (1000 + 9 * t) (400000 + 3246 * t) E 1106 [(0, .ref b), (1, .ref (ad 0)), (2, .ref (ad 68)), (3, .int x)] [] := by
  refine v_aload_n C 1 dL_law_1106 rfl rfl ?_
  refine v_aload_n C 0 dL_law_1107 rfl rfl ?_
  refine v_iload_n C 3 dL_law_1108 rfl rfl ?_
  refine v_iconst (v := 1) C dL_law_1109 (by decide) ?_
  refine v_iadd C dL_law_1110 ?_
  refine v_top (fun x1 ex1 => ?_)
  have hx1 : x1.toInt = ((6 * (t : Int)) + 1) := by rw [ex1]; exact ti_add hx (show (1 : Int32).toInt = 1 by decide) (by omega) (by omega)
  refine v_sld (v := xs (6 * t + 1)) C hX hbl hbA dL_law_1111 (ti_in hx1 (by omega) (by omega)) (by rw [ti_cl hx1, show Int.toNat ((6 * (t : Int)) + 1) = 6 * t + 1 by omega]) ?_
  refine v_aload_n C 0 dL_law_1112 rfl rfl ?_
  refine v_iload_n C 3 dL_law_1113 rfl rfl ?_
  refine v_iconst (v := 2) C dL_law_1114 (by decide) ?_
  refine v_iadd C dL_law_1115 ?_
  refine v_top (fun x2 ex2 => ?_)
  have hx2 : x2.toInt = ((6 * (t : Int)) + 2) := by rw [ex2]; exact ti_add hx (show (2 : Int32).toInt = 2 by decide) (by omega) (by omega)
  refine v_sld (v := xs (6 * t + 2)) C hX hbl hbA dL_law_1116 (ti_in hx2 (by omega) (by omega)) (by rw [ti_cl hx2, show Int.toNat ((6 * (t : Int)) + 2) = 6 * t + 2 by omega]) ?_
  refine v_aload_n C 0 dL_law_1117 rfl rfl ?_
  refine v_iload_n C 3 dL_law_1118 rfl rfl ?_
  refine v_iconst (v := 3) C dL_law_1119 (by decide) ?_
  refine v_iadd C dL_law_1120 ?_
  refine v_top (fun x3 ex3 => ?_)
  have hx3 : x3.toInt = ((6 * (t : Int)) + 3) := by rw [ex3]; exact ti_add hx (show (3 : Int32).toInt = 3 by decide) (by omega) (by omega)
  refine v_sld (v := xs (6 * t + 3)) C hX hbl hbA dL_law_1121 (ti_in hx3 (by omega) (by omega)) (by rw [ti_cl hx3, show Int.toNat ((6 * (t : Int)) + 3) = 6 * t + 3 by omega]) ?_
  refine v_aload_n C 0 dL_law_1122 rfl rfl ?_
  refine v_iload_n C 3 dL_law_1123 rfl rfl ?_
  refine v_iconst (v := 4) C dL_law_1124 (by decide) ?_
  refine v_iadd C dL_law_1125 ?_
  refine v_top (fun x4 ex4 => ?_)
  have hx4 : x4.toInt = ((6 * (t : Int)) + 4) := by rw [ex4]; exact ti_add hx (show (4 : Int32).toInt = 4 by decide) (by omega) (by omega)
  refine v_sld (v := xs (6 * t + 4)) C hX hbl hbA dL_law_1126 (ti_in hx4 (by omega) (by omega)) (by rw [ti_cl hx4, show Int.toNat ((6 * (t : Int)) + 4) = 6 * t + 4 by omega]) ?_
  refine v_aload_n C 0 dL_law_1127 rfl rfl ?_
  refine v_iload_n C 3 dL_law_1128 rfl rfl ?_
  refine v_iconst (v := 5) C dL_law_1129 (by decide) ?_
  refine v_iadd C dL_law_1130 ?_
  refine v_top (fun x5 ex5 => ?_)
  have hx5 : x5.toInt = ((6 * (t : Int)) + 5) := by rw [ex5]; exact ti_add hx (show (5 : Int32).toInt = 5 by decide) (by omega) (by omega)
  refine v_sld (v := xs (6 * t + 5)) C hX hbl hbA dL_law_1131 (ti_in hx5 (by omega) (by omega)) (by rw [ti_cl hx5, show Int.toNat ((6 * (t : Int)) + 5) = 6 * t + 5 by omega]) ?_
  obtain ⟨io, hE0, -, -⟩ := id h8.2.2.1
  refine v_cVi C dL_law_1132 lL_122 mX8_mend 0 (by omega) hE0 (by decide) rfl (a_mend l G ad h8 h9 (xs (6 * t + 1)) (xs (6 * t + 2)) (xs (6 * t + 3)) (xs (6 * t + 4)) (xs (6 * t + 5))) ⟨by decide, by decide⟩ rfl (Nat.le_of_ble_eq_true rfl) ⟨(show 1000 + 9 * t ≤ 600000 by omega), (show 400000 + 3246 * t ≤ 7302250 by omega)⟩ (fun r6 E7 hq8 => ?_)
  obtain ⟨h8, h9⟩ := hq8
  refine v_pop C dL_law_1135 rfl ?_
  refine v_aload_n C 2 dL_law_1136 rfl rfl ?_
  refine v_aload_n C 0 dL_law_1137 rfl rfl ?_
  refine v_iload_n C 3 dL_law_1138 rfl rfl ?_
  refine v_iconst (v := 1) C dL_law_1139 (by decide) ?_
  refine v_iadd C dL_law_1140 ?_
  refine v_top (fun x9 ex9 => ?_)
  have hx9 : x9.toInt = ((6 * (t : Int)) + 1) := by rw [ex9]; exact ti_add hx (show (1 : Int32).toInt = 1 by decide) (by omega) (by omega)
  refine v_sld (v := xs (6 * t + 1)) C hX hbl hbA dL_law_1141 (ti_in hx9 (by omega) (by omega)) (by rw [ti_cl hx9, show Int.toNat ((6 * (t : Int)) + 1) = 6 * t + 1 by omega]) ?_
  refine v_aload_n C 0 dL_law_1142 rfl rfl ?_
  refine v_iload_n C 3 dL_law_1143 rfl rfl ?_
  refine v_iconst (v := 2) C dL_law_1144 (by decide) ?_
  refine v_iadd C dL_law_1145 ?_
  refine v_top (fun x10 ex10 => ?_)
  have hx10 : x10.toInt = ((6 * (t : Int)) + 2) := by rw [ex10]; exact ti_add hx (show (2 : Int32).toInt = 2 by decide) (by omega) (by omega)
  refine v_sld (v := xs (6 * t + 2)) C hX hbl hbA dL_law_1146 (ti_in hx10 (by omega) (by omega)) (by rw [ti_cl hx10, show Int.toNat ((6 * (t : Int)) + 2) = 6 * t + 2 by omega]) ?_
  refine v_aload_n C 0 dL_law_1147 rfl rfl ?_
  refine v_iload_n C 3 dL_law_1148 rfl rfl ?_
  refine v_iconst (v := 3) C dL_law_1149 (by decide) ?_
  refine v_iadd C dL_law_1150 ?_
  refine v_top (fun x11 ex11 => ?_)
  have hx11 : x11.toInt = ((6 * (t : Int)) + 3) := by rw [ex11]; exact ti_add hx (show (3 : Int32).toInt = 3 by decide) (by omega) (by omega)
  refine v_sld (v := xs (6 * t + 3)) C hX hbl hbA dL_law_1151 (ti_in hx11 (by omega) (by omega)) (by rw [ti_cl hx11, show Int.toNat ((6 * (t : Int)) + 3) = 6 * t + 3 by omega]) ?_
  refine v_aload_n C 0 dL_law_1152 rfl rfl ?_
  refine v_iload_n C 3 dL_law_1153 rfl rfl ?_
  refine v_iconst (v := 4) C dL_law_1154 (by decide) ?_
  refine v_iadd C dL_law_1155 ?_
  refine v_top (fun x12 ex12 => ?_)
  have hx12 : x12.toInt = ((6 * (t : Int)) + 4) := by rw [ex12]; exact ti_add hx (show (4 : Int32).toInt = 4 by decide) (by omega) (by omega)
  refine v_sld (v := xs (6 * t + 4)) C hX hbl hbA dL_law_1156 (ti_in hx12 (by omega) (by omega)) (by rw [ti_cl hx12, show Int.toNat ((6 * (t : Int)) + 4) = 6 * t + 4 by omega]) ?_
  refine v_aload_n C 0 dL_law_1157 rfl rfl ?_
  refine v_iload_n C 3 dL_law_1158 rfl rfl ?_
  refine v_iconst (v := 5) C dL_law_1159 (by decide) ?_
  refine v_iadd C dL_law_1160 ?_
  refine v_top (fun x13 ex13 => ?_)
  have hx13 : x13.toInt = ((6 * (t : Int)) + 5) := by rw [ex13]; exact ti_add hx (show (5 : Int32).toInt = 5 by decide) (by omega) (by omega)
  refine v_sld (v := xs (6 * t + 5)) C hX hbl hbA dL_law_1161 (ti_in hx13 (by omega) (by omega)) (by rw [ti_cl hx13, show Int.toNat ((6 * (t : Int)) + 5) = 6 * t + 5 by omega]) ?_
  obtain ⟨im, hM, -⟩ := id h9.1.1
  refine v_cVi C dL_law_1162 lL_125 mX9_mend 68 (by omega) hM.2.2.1 (by decide) rfl (b_mend l G ad h8 h9 (xs (6 * t + 1)) (xs (6 * t + 2)) (xs (6 * t + 3)) (xs (6 * t + 4)) (xs (6 * t + 5))) ⟨by decide, by decide⟩ rfl (Nat.le_of_ble_eq_true rfl) ⟨(show 1000 + 9 * t ≤ 600000 by omega), (show 400000 + 3246 * t ≤ 7302250 by omega)⟩ (fun r14 E15 hq16 => ?_)
  obtain ⟨h8, h9⟩ := hq16
  refine v_pop C dL_law_1165 rfl ?_
  refine v_goto C 1288 dL_law_1166 (by decide) ?_
  exact v_widen (by omega) (by omega) (kont _ _ _ _ _ _ _ _ h8 h9)
set_option maxRecDepth 20000 in
theorem lw_k27 {X : Mx} {l : Launch} {G : Gl} {A : Nat → Prop} (C : Cx X l G A "OddHoursLaw" code 4 ret room_1) {b L : Nat} {xs : Nat → Int32} (hX : va_X b L xs X.s X.s.heap) (hbl : b < X.s.heap.size) (hbA : ¬ A b) (hA : ∀ q, A q → X.s.heap.size ≤ q) (hlr : X.args = #[Value.ref b]) {t : Nat} {x : Int32} (hx : x.toInt = 6 * (t : Int)) (hL : 6 * t + 6 ≤ L) (hL0 : L ≤ 3072) (kont : ∀ (k : Nat) (ic md : Nat → Int32) (td kn : Int32) (fl : Nat → Int32) (ad : Nat → Nat) (E : Nat → va_E), C8 G ad k ic md td kn fl E → R9 G ad (98 + 9 * k) k ic md td kn fl E → V X G A 4 (lw_Z X.below #[Value.ref b] X.s) (98 + 9 * k) ad (1000 + 9 * (t + 1)) (400000 + 3246 * (t + 1)) E 1288 [(0, .ref b), (1, .ref (ad 0)), (2, .ref (ad 68)), (3, .int x)] []) {k : Nat} {ic md : Nat → Int32} {td kn : Int32} {fl : Nat → Int32} {ad : Nat → Nat} {E : Nat → va_E} (h8 : C8 G ad k ic md td kn fl E) (h9 : R9 G ad (98 + 9 * k) k ic md td kn fl E) : V X G A 4 (lw_Z X.below #[Value.ref b] X.s) (98 + 9 * k) ad (1000 + 9 * t) (400000 + 3246 * t) E 1169 [(0, .ref b), (1, .ref (ad 0)), (2, .ref (ad 68)), (3, .int x)] [] := by
  refine v_aload_n C 1 dL_law_1169 rfl rfl ?_
  refine v_aload_n C 0 dL_law_1170 rfl rfl ?_
  refine v_iload_n C 3 dL_law_1171 rfl rfl ?_
  refine v_iconst (v := 1) C dL_law_1172 (by decide) ?_
  refine v_iadd C dL_law_1173 ?_
  refine v_top (fun x1 ex1 => ?_)
  have hx1 : x1.toInt = ((6 * (t : Int)) + 1) := by rw [ex1]; exact ti_add hx (show (1 : Int32).toInt = 1 by decide) (by omega) (by omega)
  refine v_sld (v := xs (6 * t + 1)) C hX hbl hbA dL_law_1174 (ti_in hx1 (by omega) (by omega)) (by rw [ti_cl hx1, show Int.toNat ((6 * (t : Int)) + 1) = 6 * t + 1 by omega]) ?_
  refine v_aload_n C 0 dL_law_1175 rfl rfl ?_
  refine v_iload_n C 3 dL_law_1176 rfl rfl ?_
  refine v_iconst (v := 2) C dL_law_1177 (by decide) ?_
  refine v_iadd C dL_law_1178 ?_
  refine v_top (fun x2 ex2 => ?_)
  have hx2 : x2.toInt = ((6 * (t : Int)) + 2) := by rw [ex2]; exact ti_add hx (show (2 : Int32).toInt = 2 by decide) (by omega) (by omega)
  refine v_sld (v := xs (6 * t + 2)) C hX hbl hbA dL_law_1179 (ti_in hx2 (by omega) (by omega)) (by rw [ti_cl hx2, show Int.toNat ((6 * (t : Int)) + 2) = 6 * t + 2 by omega]) ?_
  obtain ⟨io, hE0, -, -⟩ := id h8.2.2.1
  refine v_cVi C dL_law_1180 lL_126 mX8_mended 0 (by omega) hE0 (by decide) rfl (a_mended l G ad h8 h9 (xs (6 * t + 1)) (xs (6 * t + 2))) ⟨by decide, by decide⟩ rfl (Nat.le_of_ble_eq_true rfl) ⟨(show 1000 + 9 * t ≤ 600000 by omega), (show 400000 + 3246 * t ≤ 7302250 by omega)⟩ (fun r3 E4 hq5 => ?_)
  obtain ⟨h8, h9⟩ := hq5
  refine v_pop C dL_law_1183 rfl ?_
  refine v_aload_n C 2 dL_law_1184 rfl rfl ?_
  refine v_aload_n C 0 dL_law_1185 rfl rfl ?_
  refine v_iload_n C 3 dL_law_1186 rfl rfl ?_
  refine v_iconst (v := 1) C dL_law_1187 (by decide) ?_
  refine v_iadd C dL_law_1188 ?_
  refine v_top (fun x6 ex6 => ?_)
  have hx6 : x6.toInt = ((6 * (t : Int)) + 1) := by rw [ex6]; exact ti_add hx (show (1 : Int32).toInt = 1 by decide) (by omega) (by omega)
  refine v_sld (v := xs (6 * t + 1)) C hX hbl hbA dL_law_1189 (ti_in hx6 (by omega) (by omega)) (by rw [ti_cl hx6, show Int.toNat ((6 * (t : Int)) + 1) = 6 * t + 1 by omega]) ?_
  refine v_aload_n C 0 dL_law_1190 rfl rfl ?_
  refine v_iload_n C 3 dL_law_1191 rfl rfl ?_
  refine v_iconst (v := 2) C dL_law_1192 (by decide) ?_
  refine v_iadd C dL_law_1193 ?_
  refine v_top (fun x7 ex7 => ?_)
  have hx7 : x7.toInt = ((6 * (t : Int)) + 2) := by rw [ex7]; exact ti_add hx (show (2 : Int32).toInt = 2 by decide) (by omega) (by omega)
  refine v_sld (v := xs (6 * t + 2)) C hX hbl hbA dL_law_1194 (ti_in hx7 (by omega) (by omega)) (by rw [ti_cl hx7, show Int.toNat ((6 * (t : Int)) + 2) = 6 * t + 2 by omega]) ?_
  obtain ⟨im, hM, -⟩ := id h9.1.1
  refine v_cVi C dL_law_1195 lL_129 mX9_mended 68 (by omega) hM.2.2.1 (by decide) rfl (b_mended l G ad h8 h9 (xs (6 * t + 1)) (xs (6 * t + 2))) ⟨by decide, by decide⟩ rfl (Nat.le_of_ble_eq_true rfl) ⟨(show 1000 + 9 * t ≤ 600000 by omega), (show 400000 + 3246 * t ≤ 7302250 by omega)⟩ (fun r8 E9 hq10 => ?_)
  obtain ⟨h8, h9⟩ := hq10
  refine v_pop C dL_law_1198 rfl ?_
  refine v_goto C 1288 dL_law_1199 (by decide) ?_
  exact v_widen (by omega) (by omega) (kont _ _ _ _ _ _ _ _ h8 h9)
set_option maxRecDepth 20000 in
theorem lw_k28 {X : Mx} {l : Launch} {G : Gl} {A : Nat → Prop} (C : Cx X l G A "OddHoursLaw" code 4 ret room_1) {b L : Nat} {xs : Nat → Int32} (hX : va_X b L xs X.s X.s.heap) (hbl : b < X.s.heap.size) (hbA : ¬ A b) (hA : ∀ q, A q → X.s.heap.size ≤ q) (hlr : X.args = #[Value.ref b]) {t : Nat} {x : Int32} (hx : x.toInt = 6 * (t : Int)) (hL : 6 * t + 6 ≤ L) (hL0 : L ≤ 3072) (kont : ∀ (k : Nat) (ic md : Nat → Int32) (td kn : Int32) (fl : Nat → Int32) (ad : Nat → Nat) (E : Nat → va_E), C8 G ad k ic md td kn fl E → R9 G ad (98 + 9 * k) k ic md td kn fl E → V X G A 4 (lw_Z X.below #[Value.ref b] X.s) (98 + 9 * k) ad (1000 + 9 * (t + 1)) (400000 + 3246 * (t + 1)) E 1288 [(0, .ref b), (1, .ref (ad 0)), (2, .ref (ad 68)), (3, .int x)] []) {k : Nat} {ic md : Nat → Int32} {td kn : Int32} {fl : Nat → Int32} {ad : Nat → Nat} {E : Nat → va_E} (h8 : C8 G ad k ic md td kn fl E) (h9 : R9 G ad (98 + 9 * k) k ic md td kn fl E) : V X G A 4 (lw_Z X.below #[Value.ref b] X.s) (98 + 9 * k) ad (1000 + 9 * t) (400000 + 3246 * t) E 1202 [(0, .ref b), (1, .ref (ad 0)), (2, .ref (ad 68)), (3, .int x)] [] := by
  refine v_aload_n C 1 dL_law_1202 rfl rfl ?_
  refine v_aload_n C 0 dL_law_1203 rfl rfl ?_
  refine v_iload_n C 3 dL_law_1204 rfl rfl ?_
  refine v_iconst (v := 1) C dL_law_1205 (by decide) ?_
  refine v_iadd C dL_law_1206 ?_
  refine v_top (fun x1 ex1 => ?_)
  have hx1 : x1.toInt = ((6 * (t : Int)) + 1) := by rw [ex1]; exact ti_add hx (show (1 : Int32).toInt = 1 by decide) (by omega) (by omega)
  refine v_sld (v := xs (6 * t + 1)) C hX hbl hbA dL_law_1207 (ti_in hx1 (by omega) (by omega)) (by rw [ti_cl hx1, show Int.toNat ((6 * (t : Int)) + 1) = 6 * t + 1 by omega]) ?_
  refine v_aload_n C 0 dL_law_1208 rfl rfl ?_
  refine v_iload_n C 3 dL_law_1209 rfl rfl ?_
  refine v_iconst (v := 2) C dL_law_1210 (by decide) ?_
  refine v_iadd C dL_law_1211 ?_
  refine v_top (fun x2 ex2 => ?_)
  have hx2 : x2.toInt = ((6 * (t : Int)) + 2) := by rw [ex2]; exact ti_add hx (show (2 : Int32).toInt = 2 by decide) (by omega) (by omega)
  refine v_sld (v := xs (6 * t + 2)) C hX hbl hbA dL_law_1212 (ti_in hx2 (by omega) (by omega)) (by rw [ti_cl hx2, show Int.toNat ((6 * (t : Int)) + 2) = 6 * t + 2 by omega]) ?_
  refine v_aload_n C 0 dL_law_1213 rfl rfl ?_
  refine v_iload_n C 3 dL_law_1214 rfl rfl ?_
  refine v_iconst (v := 3) C dL_law_1215 (by decide) ?_
  refine v_iadd C dL_law_1216 ?_
  refine v_top (fun x3 ex3 => ?_)
  have hx3 : x3.toInt = ((6 * (t : Int)) + 3) := by rw [ex3]; exact ti_add hx (show (3 : Int32).toInt = 3 by decide) (by omega) (by omega)
  refine v_sld (v := xs (6 * t + 3)) C hX hbl hbA dL_law_1217 (ti_in hx3 (by omega) (by omega)) (by rw [ti_cl hx3, show Int.toNat ((6 * (t : Int)) + 3) = 6 * t + 3 by omega]) ?_
  refine v_aload_n C 0 dL_law_1218 rfl rfl ?_
  refine v_iload_n C 3 dL_law_1219 rfl rfl ?_
  refine v_iconst (v := 4) C dL_law_1220 (by decide) ?_
  refine v_iadd C dL_law_1221 ?_
  refine v_top (fun x4 ex4 => ?_)
  have hx4 : x4.toInt = ((6 * (t : Int)) + 4) := by rw [ex4]; exact ti_add hx (show (4 : Int32).toInt = 4 by decide) (by omega) (by omega)
  refine v_sld (v := xs (6 * t + 4)) C hX hbl hbA dL_law_1222 (ti_in hx4 (by omega) (by omega)) (by rw [ti_cl hx4, show Int.toNat ((6 * (t : Int)) + 4) = 6 * t + 4 by omega]) ?_
  refine v_aload_n C 0 dL_law_1223 rfl rfl ?_
  refine v_iload_n C 3 dL_law_1224 rfl rfl ?_
  refine v_iconst (v := 5) C dL_law_1225 (by decide) ?_
  refine v_iadd C dL_law_1226 ?_
  refine v_top (fun x5 ex5 => ?_)
  have hx5 : x5.toInt = ((6 * (t : Int)) + 5) := by rw [ex5]; exact ti_add hx (show (5 : Int32).toInt = 5 by decide) (by omega) (by omega)
  refine v_sld (v := xs (6 * t + 5)) C hX hbl hbA dL_law_1227 (ti_in hx5 (by omega) (by omega)) (by rw [ti_cl hx5, show Int.toNat ((6 * (t : Int)) + 5) = 6 * t + 5 by omega]) ?_
  obtain ⟨io, hE0, -, -⟩ := id h8.2.2.1
  refine v_cVi C dL_law_1228 lL_130 mX8_meetings 0 (by omega) hE0 (by decide) rfl (a_meetings l G ad h8 h9 (xs (6 * t + 1)) (xs (6 * t + 2)) (xs (6 * t + 3)) (xs (6 * t + 4)) (xs (6 * t + 5))) ⟨by decide, by decide⟩ rfl (Nat.le_of_ble_eq_true rfl) ⟨(show 1000 + 9 * t ≤ 600000 by omega), (show 400000 + 3246 * t ≤ 7302250 by omega)⟩ (fun r6 E7 hq8 => ?_)
  obtain ⟨h8, h9⟩ := hq8
  refine v_pop C dL_law_1231 rfl ?_
  refine v_aload_n C 2 dL_law_1232 rfl rfl ?_
  refine v_aload_n C 0 dL_law_1233 rfl rfl ?_
  refine v_iload_n C 3 dL_law_1234 rfl rfl ?_
  refine v_iconst (v := 1) C dL_law_1235 (by decide) ?_
  refine v_iadd C dL_law_1236 ?_
  refine v_top (fun x9 ex9 => ?_)
  have hx9 : x9.toInt = ((6 * (t : Int)) + 1) := by rw [ex9]; exact ti_add hx (show (1 : Int32).toInt = 1 by decide) (by omega) (by omega)
  refine v_sld (v := xs (6 * t + 1)) C hX hbl hbA dL_law_1237 (ti_in hx9 (by omega) (by omega)) (by rw [ti_cl hx9, show Int.toNat ((6 * (t : Int)) + 1) = 6 * t + 1 by omega]) ?_
  refine v_aload_n C 0 dL_law_1238 rfl rfl ?_
  refine v_iload_n C 3 dL_law_1239 rfl rfl ?_
  refine v_iconst (v := 2) C dL_law_1240 (by decide) ?_
  refine v_iadd C dL_law_1241 ?_
  refine v_top (fun x10 ex10 => ?_)
  have hx10 : x10.toInt = ((6 * (t : Int)) + 2) := by rw [ex10]; exact ti_add hx (show (2 : Int32).toInt = 2 by decide) (by omega) (by omega)
  refine v_sld (v := xs (6 * t + 2)) C hX hbl hbA dL_law_1242 (ti_in hx10 (by omega) (by omega)) (by rw [ti_cl hx10, show Int.toNat ((6 * (t : Int)) + 2) = 6 * t + 2 by omega]) ?_
  refine v_aload_n C 0 dL_law_1243 rfl rfl ?_
  refine v_iload_n C 3 dL_law_1244 rfl rfl ?_
  refine v_iconst (v := 3) C dL_law_1245 (by decide) ?_
  refine v_iadd C dL_law_1246 ?_
  refine v_top (fun x11 ex11 => ?_)
  have hx11 : x11.toInt = ((6 * (t : Int)) + 3) := by rw [ex11]; exact ti_add hx (show (3 : Int32).toInt = 3 by decide) (by omega) (by omega)
  refine v_sld (v := xs (6 * t + 3)) C hX hbl hbA dL_law_1247 (ti_in hx11 (by omega) (by omega)) (by rw [ti_cl hx11, show Int.toNat ((6 * (t : Int)) + 3) = 6 * t + 3 by omega]) ?_
  refine v_aload_n C 0 dL_law_1248 rfl rfl ?_
  refine v_iload_n C 3 dL_law_1249 rfl rfl ?_
  refine v_iconst (v := 4) C dL_law_1250 (by decide) ?_
  refine v_iadd C dL_law_1251 ?_
  refine v_top (fun x12 ex12 => ?_)
  have hx12 : x12.toInt = ((6 * (t : Int)) + 4) := by rw [ex12]; exact ti_add hx (show (4 : Int32).toInt = 4 by decide) (by omega) (by omega)
  refine v_sld (v := xs (6 * t + 4)) C hX hbl hbA dL_law_1252 (ti_in hx12 (by omega) (by omega)) (by rw [ti_cl hx12, show Int.toNat ((6 * (t : Int)) + 4) = 6 * t + 4 by omega]) ?_
  refine v_aload_n C 0 dL_law_1253 rfl rfl ?_
  refine v_iload_n C 3 dL_law_1254 rfl rfl ?_
  refine v_iconst (v := 5) C dL_law_1255 (by decide) ?_
  refine v_iadd C dL_law_1256 ?_
  refine v_top (fun x13 ex13 => ?_)
  have hx13 : x13.toInt = ((6 * (t : Int)) + 5) := by rw [ex13]; exact ti_add hx (show (5 : Int32).toInt = 5 by decide) (by omega) (by omega)
  refine v_sld (v := xs (6 * t + 5)) C hX hbl hbA dL_law_1257 (ti_in hx13 (by omega) (by omega)) (by rw [ti_cl hx13, show Int.toNat ((6 * (t : Int)) + 5) = 6 * t + 5 by omega]) ?_
  obtain ⟨im, hM, -⟩ := id h9.1.1
  refine v_cVi C dL_law_1258 lL_133 mX9_meetings 68 (by omega) hM.2.2.1 (by decide) rfl (b_meetings l G ad h8 h9 (xs (6 * t + 1)) (xs (6 * t + 2)) (xs (6 * t + 3)) (xs (6 * t + 4)) (xs (6 * t + 5))) ⟨by decide, by decide⟩ rfl (Nat.le_of_ble_eq_true rfl) ⟨(show 1000 + 9 * t ≤ 600000 by omega), (show 400000 + 3246 * t ≤ 7302250 by omega)⟩ (fun r14 E15 hq16 => ?_)
  obtain ⟨h8, h9⟩ := hq16
  refine v_pop C dL_law_1261 rfl ?_
  refine v_goto C 1288 dL_law_1262 (by decide) ?_
  exact v_widen (by omega) (by omega) (kont _ _ _ _ _ _ _ _ h8 h9)
set_option maxRecDepth 20000 in
theorem lw_k29 {X : Mx} {l : Launch} {G : Gl} {A : Nat → Prop} (C : Cx X l G A "OddHoursLaw" code 4 ret room_1) {b L : Nat} {xs : Nat → Int32} (hX : va_X b L xs X.s X.s.heap) (hbl : b < X.s.heap.size) (hbA : ¬ A b) (hA : ∀ q, A q → X.s.heap.size ≤ q) (hlr : X.args = #[Value.ref b]) {t : Nat} {x : Int32} (hx : x.toInt = 6 * (t : Int)) (hL : 6 * t + 6 ≤ L) (hL0 : L ≤ 3072) (kont : ∀ (k : Nat) (ic md : Nat → Int32) (td kn : Int32) (fl : Nat → Int32) (ad : Nat → Nat) (E : Nat → va_E), C8 G ad k ic md td kn fl E → R9 G ad (98 + 9 * k) k ic md td kn fl E → V X G A 4 (lw_Z X.below #[Value.ref b] X.s) (98 + 9 * k) ad (1000 + 9 * (t + 1)) (400000 + 3246 * (t + 1)) E 1288 [(0, .ref b), (1, .ref (ad 0)), (2, .ref (ad 68)), (3, .int x)] []) {k : Nat} {ic md : Nat → Int32} {td kn : Int32} {fl : Nat → Int32} {ad : Nat → Nat} {E : Nat → va_E} (h8 : C8 G ad k ic md td kn fl E) (h9 : R9 G ad (98 + 9 * k) k ic md td kn fl E) : V X G A 4 (lw_Z X.below #[Value.ref b] X.s) (98 + 9 * k) ad (1000 + 9 * t) (400000 + 3246 * t) E 1265 [(0, .ref b), (1, .ref (ad 0)), (2, .ref (ad 68)), (3, .int x)] [] := by
  refine v_aload_n C 1 dL_law_1265 rfl rfl ?_
  refine v_aload_n C 0 dL_law_1266 rfl rfl ?_
  refine v_iload_n C 3 dL_law_1267 rfl rfl ?_
  refine v_iconst (v := 1) C dL_law_1268 (by decide) ?_
  refine v_iadd C dL_law_1269 ?_
  refine v_top (fun x1 ex1 => ?_)
  have hx1 : x1.toInt = ((6 * (t : Int)) + 1) := by rw [ex1]; exact ti_add hx (show (1 : Int32).toInt = 1 by decide) (by omega) (by omega)
  refine v_sld (v := xs (6 * t + 1)) C hX hbl hbA dL_law_1270 (ti_in hx1 (by omega) (by omega)) (by rw [ti_cl hx1, show Int.toNat ((6 * (t : Int)) + 1) = 6 * t + 1 by omega]) ?_
  obtain ⟨io, hE0, -, -⟩ := id h8.2.2.1
  refine v_cVi C dL_law_1271 lL_134 mX8_count 0 (by omega) hE0 (by decide) rfl (a_count l G ad h8 h9 (xs (6 * t + 1))) ⟨by decide, by decide⟩ rfl (Nat.le_of_ble_eq_true rfl) ⟨(show 1000 + 9 * t ≤ 600000 by omega), (show 400000 + 3246 * t ≤ 7302250 by omega)⟩ (fun r2 E3 hq4 => ?_)
  obtain ⟨g1, h8, h9⟩ := hq4
  refine v_aload_n C 2 dL_law_1274 rfl rfl ?_
  refine v_aload_n C 0 dL_law_1275 rfl rfl ?_
  refine v_iload_n C 3 dL_law_1276 rfl rfl ?_
  refine v_iconst (v := 1) C dL_law_1277 (by decide) ?_
  refine v_iadd C dL_law_1278 ?_
  refine v_top (fun x5 ex5 => ?_)
  have hx5 : x5.toInt = ((6 * (t : Int)) + 1) := by rw [ex5]; exact ti_add hx (show (1 : Int32).toInt = 1 by decide) (by omega) (by omega)
  refine v_sld (v := xs (6 * t + 1)) C hX hbl hbA dL_law_1279 (ti_in hx5 (by omega) (by omega)) (by rw [ti_cl hx5, show Int.toNat ((6 * (t : Int)) + 1) = 6 * t + 1 by omega]) ?_
  obtain ⟨im, hM, -⟩ := id h9.1.1
  refine v_cVi C dL_law_1280 lL_137 mX9_count 68 (by omega) hM.2.2.1 (by decide) rfl (b_count l G ad h8 h9 (xs (6 * t + 1))) ⟨by decide, by decide⟩ rfl (Nat.le_of_ble_eq_true rfl) ⟨(show 1000 + 9 * t ≤ 600000 by omega), (show 400000 + 3246 * t ≤ 7302250 by omega)⟩ (fun r6 E7 hq8 => ?_)
  obtain ⟨g2, h8, h9⟩ := hq8
  have geq : r2.toInt = r6.toInt := g1.trans g2.symm
  refine b_icmp_eq C 1288 dL_law_1283 (by decide) (rfl : Int32.toInt r2 = _) (rfl : Int32.toInt r6 = _) (fun c9 => ?_) (fun c9 => absurd geq c9)
  exact v_widen (by omega) (by omega) (kont _ _ _ _ _ _ _ _ h8 h9)
