set_option maxRecDepth 20000 in
theorem y_changeLine (l : Launch) (G : Gl) (n : Nat) (ad : Nat → Nat) (E : Nat → va_E) (hn : 98 ≤ n) {im : Nat → Int32} (h68 : E 68 = ob 9 (rX9 ad) im) {k N ln c : Nat} (hk : (im 16).toInt = (k : Int)) (hk5 : k ≤ 5) (hN10 : N ≤ 10) (hl : ln < N) (hc100 : c ≤ 100) {fo fx fy : Nat → Int32} (h89 : E 89 = aI G 10 fo) (h90 : E 90 = aI G 10 fx) (h91 : E 91 = aI G 10 fy) (hok : okLs k N fo fx fy) (q : Int32) (z : Int32) (hq : q.toInt = (ln : Int)) (hz : z.toInt = (c : Int)) : CtI l G yX9_changeLine cX9_changeLine 5 .boolean 1 22 (n) ad E [.ref (ad 68), .int q, .int z] (fun r E' => CLp G k ln c fo fx fy E' r ∧ ∀ j, j ≠ 89 → j ≠ 90 → j ≠ 91 → E' j = E j) := by
  refine CtI.of (by decide) (Nat.le_of_ble_eq_true rfl) (fun X A C => ?_)
  refine v_sub (lv' := [(0, .ref (ad 68)), (1, .int q), (2, .int z)]) [0, 1, 2] rfl ?_
  have hlb := okLn_b hk5 (hok ln hl)
  have hln := hok ln hl
  refine v_iload_n C 2 dX9_changeLine_0 rfl rfl ?_
  refine v_istore_n (lv' := [(0, .ref (ad 68)), (1, .int q), (2, .int z), (3, .int z)]) C [1, 2, 3, 0] dX9_changeLine_1 rfl (by decide) rfl ?_
  refine v_aload_n C 0 dX9_changeLine_2 rfl rfl ?_
  refine v_getr C 68 dX9_changeLine_3 fX9_88 (by omega) h68 rfl rfl ?_
  refine v_iload_n C 1 dX9_changeLine_6 rfl rfl ?_
  refine v_ald (v := fo ln) C 89 dX9_changeLine_7 (by omega) h89 (ti_in hq (by omega) (by omega)) (by rw [ti_cl hq, show Int.toNat (ln : Int) = ln by omega]) ?_
  refine v_iconst (v := 4) C dX9_changeLine_8 (by decide) ?_
  refine b_icmp_ne C 35 dX9_changeLine_9 (by decide) (rfl : Int32.toInt (fo ln) = _) (show (4 : Int32).toInt = 4 by decide) (fun c1 => ?_) (fun c1 => ?_)
  · refine v_aload_n C 0 dX9_changeLine_35 rfl rfl ?_
    refine v_getr C 68 dX9_changeLine_36 fX9_88 (by omega) h68 rfl rfl ?_
    refine v_iload_n C 1 dX9_changeLine_39 rfl rfl ?_
    refine v_ald (v := fo ln) C 89 dX9_changeLine_40 (by omega) h89 (ti_in hq (by omega) (by omega)) (by rw [ti_cl hq, show Int.toNat (ln : Int) = ln by omega]) ?_
    refine v_iconst (v := 4) C dX9_changeLine_41 (by decide) ?_
    refine b_icmp_eq C 55 dX9_changeLine_42 (by decide) (rfl : Int32.toInt (fo ln) = _) (show (4 : Int32).toInt = 4 by decide) (fun c2 => by exfalso; omega) (fun c2 => ?_)
    refine v_aload_n C 0 dX9_changeLine_45 rfl rfl ?_
    refine v_getr C 68 dX9_changeLine_46 fX9_88 (by omega) h68 rfl rfl ?_
    refine v_iload_n C 1 dX9_changeLine_49 rfl rfl ?_
    refine v_ald (v := fo ln) C 89 dX9_changeLine_50 (by omega) h89 (ti_in hq (by omega) (by omega)) (by rw [ti_cl hq, show Int.toNat (ln : Int) = ln by omega]) ?_
    refine v_iconst (v := 1) C dX9_changeLine_51 (by decide) ?_
    refine b_icmp_ne C 103 dX9_changeLine_52 (by decide) (rfl : Int32.toInt (fo ln) = _) (show (1 : Int32).toInt = 1 by decide) (fun c3 => ?_) (fun c3 => ?_)
    · refine v_aload_n C 0 dX9_changeLine_103 rfl rfl ?_
      refine v_getr C 68 dX9_changeLine_104 fX9_88 (by omega) h68 rfl rfl ?_
      refine v_iload_n C 1 dX9_changeLine_107 rfl rfl ?_
      refine v_ald (v := fo ln) C 89 dX9_changeLine_108 (by omega) h89 (ti_in hq (by omega) (by omega)) (by rw [ti_cl hq, show Int.toNat (ln : Int) = ln by omega]) ?_
      refine v_iconst (v := 5) C dX9_changeLine_109 (by decide) ?_
      refine b_icmp_ne C 163 dX9_changeLine_110 (by decide) (rfl : Int32.toInt (fo ln) = _) (show (5 : Int32).toInt = 5 by decide) (fun c4 => ?_) (fun c4 => ?_)
      · refine v_aload_n C 0 dX9_changeLine_163 rfl rfl ?_
        refine v_getr C 68 dX9_changeLine_164 fX9_88 (by omega) h68 rfl rfl ?_
        refine v_iload_n C 1 dX9_changeLine_167 rfl rfl ?_
        refine v_ald (v := fo ln) C 89 dX9_changeLine_168 (by omega) h89 (ti_in hq (by omega) (by omega)) (by rw [ti_cl hq, show Int.toNat (ln : Int) = ln by omega]) ?_
        refine v_bipush (v := 6) C dX9_changeLine_169 (by decide) ?_
        refine b_icmp_ne C 223 dX9_changeLine_171 (by decide) (rfl : Int32.toInt (fo ln) = _) (show (6 : Int32).toInt = 6 by decide) (fun c5 => ?_) (fun c5 => ?_)
        · refine v_aload_n C 0 dX9_changeLine_223 rfl rfl ?_
          refine v_getr C 68 dX9_changeLine_224 fX9_88 (by omega) h68 rfl rfl ?_
          refine v_iload_n C 1 dX9_changeLine_227 rfl rfl ?_
          refine v_ald (v := fo ln) C 89 dX9_changeLine_228 (by omega) h89 (ti_in hq (by omega) (by omega)) (by rw [ti_cl hq, show Int.toNat (ln : Int) = ln by omega]) ?_
          refine v_bipush (v := 7) C dX9_changeLine_229 (by decide) ?_
          refine b_icmp_ne C 277 dX9_changeLine_231 (by decide) (rfl : Int32.toInt (fo ln) = _) (show (7 : Int32).toInt = 7 by decide) (fun c6 => ?_) (fun c6 => ?_)
          · refine v_iconst (v := 0) C dX9_changeLine_277 (by decide) ?_
            exact v_ret C dX9_changeLine_278 rfl rfl ⟨Or.inr ⟨rfl, (by rw [an_no (by omega)]; omega), h89, h90, h91⟩, fun j g1 g2 g3 => rfl⟩
          · refine v_iconst (v := 0) C dX9_changeLine_234 (by decide) ?_
            refine v_istore (lv' := [(0, .ref (ad 68)), (1, .int q), (2, .int z), (3, .int z), (4, .int 0)]) C [1, 2, 3, 4, 0] dX9_changeLine_235 (by decide) rfl ?_
            have LP7 : ∀ (t : Nat) (lf : Int) (y8 : Int32) (z1 : Nat) (y9 : Int32) (E10 : Nat → va_E), (y8.toInt = lf) → (y9.toInt = (z1 : Int)) → (∀ j, E10 j = E j) → (0 ≤ lf) → (z1 ≤ 3) → (lf + ((czN (fy ln).toInt z1 : Nat) : Int) = (c : Int)) → 3 - (z1 : Int) < (t : Int) → V X G A 5 (QI X G A (n) ad (fun r E' => CLp G k ln c fo fx fy E' r ∧ ∀ j, j ≠ 89 → j ≠ 90 → j ≠ 91 → E' j = E j)) (n) ad 0 0 E10 237 [(0, .ref (ad 68)), (1, .int q), (2, .int z), (3, .int y8), (4, .int y9)] [] := by
              intro t14
              induction t14 with
              | zero => intro lf y8 z1 y9 E10 hy8 hy9 hfr11 hq12 hq13 hcz hm16; exfalso; omega
              | succ t14 ih15 =>
                intro lf y8 z1 y9 E10 hy8 hy9 hfr11 hq12 hq13 hcz hm16
                have hE10_68 := (hfr11 68 ).trans h68
                have hE10_89 := (hfr11 89 ).trans h89
                have hE10_90 := (hfr11 90 ).trans h90
                have hE10_91 := (hfr11 91 ).trans h91
                refine v_iload C 4 dX9_changeLine_237 rfl ?_
                refine v_iconst (v := 3) C dX9_changeLine_239 (by decide) ?_
                refine b_icmp_ge C 277 dX9_changeLine_240 (by decide) hy9 (show (3 : Int32).toInt = 3 by decide) (fun c17 => ?_) (fun c17 => ?_)
                · refine v_iconst (v := 0) C dX9_changeLine_277 (by decide) ?_
                  exact v_ret C dX9_changeLine_278 rfl rfl ⟨Or.inr ⟨rfl, (by rw [show (fo ln).toInt = 7 by omega, an_7]; have := cz_k (own := (fy ln).toInt) (k := 3) (by omega); have e9 : z1 = 3 := (by omega); subst e9; omega), hE10_89, hE10_90, hE10_91⟩, fun j g1 g2 g3 => (hfr11 j )⟩
                · refine v_iload C 4 dX9_changeLine_243 rfl ?_
                  refine v_aload_n C 0 dX9_changeLine_245 rfl rfl ?_
                  refine v_getr C 68 dX9_changeLine_246 fX9_94 (by omega) hE10_68 rfl rfl ?_
                  refine v_iload_n C 1 dX9_changeLine_249 rfl rfl ?_
                  refine v_ald (v := fy ln) C 91 dX9_changeLine_250 (by omega) hE10_91 (ti_in hq (by omega) (by omega)) (by rw [ti_cl hq, show Int.toNat (ln : Int) = ln by omega]) ?_
                  refine b_icmp_eq C 271 dX9_changeLine_251 (by decide) hy9 (rfl : Int32.toInt (fy ln) = _) (fun c18 => ?_) (fun c18 => ?_)
                  · obtain ⟨x19, ex19⟩ : ∃ y : Int32, y = y9 + 1 := ⟨_, rfl⟩
                    have hx19 : x19.toInt = ((z1 : Int) + 1) := by rw [ex19]; exact ti_add hy9 (show (1 : Int32).toInt = 1 by decide) (by omega) (by omega)
                    refine v_iinc (v := x19) (lv' := [(0, .ref (ad 68)), (1, .int q), (2, .int z), (3, .int y8), (4, .int x19)]) C 4 [1, 2, 3, 4, 0] dX9_changeLine_271 rfl (ex19.symm) (by decide) rfl ?_
                    refine v_goto C 237 dX9_changeLine_274 (by decide) ?_
                    exact ih15 lf y8 (z1 + 1) x19 E10 hy8 (show Int32.toInt x19 = ((z1 + 1 : Nat) : Int) by have := hx19; omega) (fun j => (hfr11 j )) (by omega) (by omega) (by have q0 := cz_e (own := (fy ln).toInt) (z := z1) (by omega); omega) (by omega)
                  · refine v_iload_n C 3 dX9_changeLine_254 rfl rfl ?_
                    refine b_if_ne C 268 dX9_changeLine_255 (by decide) hy8 (fun c20 => ?_) (fun c20 => ?_)
                    · obtain ⟨x21, ex21⟩ : ∃ y : Int32, y = y8 + (-1) := ⟨_, rfl⟩
                      have hx21 : x21.toInt = (lf + (-1)) := by rw [ex21]; exact ti_add hy8 (show ((-1) : Int32).toInt = (-1) by decide) (by omega) (by omega)
                      refine v_iinc (v := x21) (lv' := [(0, .ref (ad 68)), (1, .int q), (2, .int z), (3, .int x21), (4, .int y9)]) C 3 [1, 2, 3, 0, 4] dX9_changeLine_268 rfl (ex21.symm) (by decide) rfl ?_
                      obtain ⟨x22, ex22⟩ : ∃ y : Int32, y = y9 + 1 := ⟨_, rfl⟩
                      have hx22 : x22.toInt = ((z1 : Int) + 1) := by rw [ex22]; exact ti_add hy9 (show (1 : Int32).toInt = 1 by decide) (by omega) (by omega)
                      refine v_iinc (v := x22) (lv' := [(0, .ref (ad 68)), (1, .int q), (2, .int z), (3, .int x21), (4, .int x22)]) C 4 [1, 2, 3, 4, 0] dX9_changeLine_271 rfl (ex22.symm) (by decide) rfl ?_
                      refine v_goto C 237 dX9_changeLine_274 (by decide) ?_
                      exact ih15 (lf + (-1)) x21 (z1 + 1) x22 E10 hx21 (show Int32.toInt x22 = ((z1 + 1 : Nat) : Int) by have := hx22; omega) (fun j => (hfr11 j )) (by omega) (by omega) (by have q0 := cz_s (own := (fy ln).toInt) (z := z1) (by omega) (by omega); omega) (by omega)
                    · refine v_aload_n C 0 dX9_changeLine_258 rfl rfl ?_
                      refine v_getr C 68 dX9_changeLine_259 fX9_94 (by omega) hE10_68 rfl rfl ?_
                      refine v_iload_n C 1 dX9_changeLine_262 rfl rfl ?_
                      refine v_iload C 4 dX9_changeLine_263 rfl ?_
                      refine v_ast C 91 dX9_changeLine_265 (by omega) hE10_91 (ti_in hq (by omega) (by omega)) (fun E23 hE23_91 oE23 => ?_)
                      rw [ti_cl hq, show Int.toNat (ln : Int) = ln by omega] at hE23_91
                      have hE23_68 := (oE23 68 (by decide)).trans hE10_68
                      have hE23_89 := (oE23 89 (by decide)).trans hE10_89
                      have hE23_90 := (oE23 90 (by decide)).trans hE10_90
                      refine v_iconst (v := 1) C dX9_changeLine_266 (by decide) ?_
                      have hcv : c < anN k (fo ln).toInt (fx ln).toInt := by have q9 := cz_lt (own := (fy ln).toInt) (z := z1) (k := 3) (by omega) (by omega) (by omega) (by omega); rw [show (fo ln).toInt = 7 by omega, an_7]; omega
                      have hO9 : fo = edO fo ln := edO_id (by rcases (show (fo ln).toInt = 4 ∨ (fo ln).toInt = 1 ∨ (fo ln).toInt = 7 by omega) with q | q | q <;> rw [q] <;> rfl)
                      have hX9 : fx = edX fo fx ln c := edX_id (by rw [show (fo ln).toInt = 7 by omega]; rfl)
                      have hY9 : upd fy ln y9 = edY fo fy ln c := edY_of (hy9.trans (by rw [show (fo ln).toInt = 7 by omega]; exact skp_cz (by omega) (by omega) (by omega)))
                      exact v_ret C dX9_changeLine_267 rfl rfl ⟨Or.inl ⟨rfl, hcv, (by rw [← hO9]; exact hE23_89), (by rw [← hX9]; exact hE23_90), (by rw [← hY9]; exact hE23_91)⟩, fun j g1 g2 g3 => ((oE23 j g3).trans (hfr11 j ))⟩
            exact LP7 100000 (c : Int) z 0 0 E hz (show Int32.toInt 0 = ((0 : Nat) : Int) by have := (show (0 : Int32).toInt = 0 by decide); omega) (fun j => rfl) (by omega) (by omega) (by have q0 : czN (fy ln).toInt 0 = 0 := (by unfold czN; rw [if_pos (by omega)]); omega) (by omega)
        · refine v_iload_n C 3 dX9_changeLine_174 rfl rfl ?_
          refine b_if_ne C 200 dX9_changeLine_175 (by decide) hz (fun c24 => ?_) (fun c24 => ?_)
          · refine v_iconst (v := 0) C dX9_changeLine_200 (by decide) ?_
            exact v_ret C dX9_changeLine_201 rfl rfl ⟨Or.inr ⟨rfl, (by rw [show (fo ln).toInt = 6 by omega]; by_cases q : -6 ≤ (fx ln).toInt ∧ (fx ln).toInt ≤ 6; (rw [an_6y q]; omega); (rw [an_6n q]; omega)), h89, h90, h91⟩, fun j g1 g2 g3 => rfl⟩
          · refine v_aload_n C 0 dX9_changeLine_178 rfl rfl ?_
            refine v_getr C 68 dX9_changeLine_179 fX9_91 (by omega) h68 rfl rfl ?_
            refine v_iload_n C 1 dX9_changeLine_182 rfl rfl ?_
            refine v_ald (v := fx ln) C 90 dX9_changeLine_183 (by omega) h90 (ti_in hq (by omega) (by omega)) (by rw [ti_cl hq, show Int.toNat (ln : Int) = ln by omega]) ?_
            refine v_sipush (v := 1440) C dX9_changeLine_184 (by decide) ?_
            refine v_imul C dX9_changeLine_187 ?_
            refine v_top (fun x25 ex25 => ?_)
            have hx25 : x25.toInt = ((fx ln).toInt * 1440) := by rw [ex25]; exact ti_mul (rfl : Int32.toInt (fx ln) = _) (show (1440 : Int32).toInt = 1440 by decide) (by omega) (by omega)
            refine v_sipush (v := (-9999)) C dX9_changeLine_188 (by decide) ?_
            refine v_sipush (v := 9999) C dX9_changeLine_191 (by decide) ?_
            refine v_cSp C dX9_changeLine_194 lX9_131 mX9_within (d_within l G _ ad _ x25 (-9999) 9999) ⟨by decide, by decide⟩ rfl (Nat.le_of_ble_eq_true rfl) ⟨Nat.zero_le _, Nat.zero_le _⟩ (fun r26 hp27 => ?_)
            rw [(show ((-9999) : Int32).toInt = (-9999) by decide), (show (9999 : Int32).toInt = 9999 by decide)] at hp27
            rcases hp27 with ⟨rfl, hp27⟩ | ⟨rfl, hp27⟩
            · refine b_if_ne C 202 dX9_changeLine_197 (by decide) (show (1 : Int32).toInt = 1 by decide) (fun c28 => ?_) (fun c28 => absurd c28 (by decide))
              refine v_aload_n C 0 dX9_changeLine_202 rfl rfl ?_
              refine v_getr C 68 dX9_changeLine_203 fX9_88 (by omega) h68 rfl rfl ?_
              refine v_iload_n C 1 dX9_changeLine_206 rfl rfl ?_
              refine v_iconst (v := 5) C dX9_changeLine_207 (by decide) ?_
              refine v_ast C 89 dX9_changeLine_208 (by omega) h89 (ti_in hq (by omega) (by omega)) (fun E29 hE29_89 oE29 => ?_)
              rw [ti_cl hq, show Int.toNat (ln : Int) = ln by omega] at hE29_89
              have hE29_68 := (oE29 68 (by decide)).trans h68
              have hE29_90 := (oE29 90 (by decide)).trans h90
              have hE29_91 := (oE29 91 (by decide)).trans h91
              refine v_aload_n C 0 dX9_changeLine_209 rfl rfl ?_
              refine v_getr C 68 dX9_changeLine_210 fX9_91 (by omega) hE29_68 rfl rfl ?_
              refine v_iload_n C 1 dX9_changeLine_213 rfl rfl ?_
              refine v_dup2_11 C dX9_changeLine_214 rfl rfl ?_
              refine v_ald (v := fx ln) C 90 dX9_changeLine_215 (by omega) hE29_90 (ti_in hq (by omega) (by omega)) (by rw [ti_cl hq, show Int.toNat (ln : Int) = ln by omega]) ?_
              refine v_sipush (v := 1440) C dX9_changeLine_216 (by decide) ?_
              refine v_imul C dX9_changeLine_219 ?_
              refine v_top (fun x30 ex30 => ?_)
              have hx30 : x30.toInt = ((fx ln).toInt * 1440) := by rw [ex30]; exact ti_mul (rfl : Int32.toInt (fx ln) = _) (show (1440 : Int32).toInt = 1440 by decide) (by omega) (by omega)
              refine v_ast C 90 dX9_changeLine_220 (by omega) hE29_90 (ti_in hq (by omega) (by omega)) (fun E31 hE31_90 oE31 => ?_)
              rw [ti_cl hq, show Int.toNat (ln : Int) = ln by omega] at hE31_90
              have hE31_68 := (oE31 68 (by decide)).trans hE29_68
              have hE31_89 := (oE31 89 (by decide)).trans hE29_89
              have hE31_91 := (oE31 91 (by decide)).trans hE29_91
              refine v_iconst (v := 1) C dX9_changeLine_221 (by decide) ?_
              have hcv : c < anN k (fo ln).toInt (fx ln).toInt := by rw [show (fo ln).toInt = 6 by omega, an_6y (by omega)]; omega
              have hO9 : upd fo ln 5 = edO fo ln := edO_of (by rw [show (fo ln).toInt = 6 by omega]; decide)
              have hX9 : upd fx ln x30 = edX fo fx ln c := edX_of (by rw [show (fo ln).toInt = 6 by omega]; show Int32.toInt x30 = 1440 * (fx ln).toInt; have := hx30; omega)
              have hY9 : fy = edY fo fy ln c := edY_id (by rw [show (fo ln).toInt = 6 by omega]; rfl)
              exact v_ret C dX9_changeLine_222 rfl rfl ⟨Or.inl ⟨rfl, hcv, (by rw [← hO9]; exact hE31_89), (by rw [← hX9]; exact hE31_90), (by rw [← hY9]; exact hE31_91)⟩, fun j g1 g2 g3 => ((oE31 j g2).trans (oE29 j g1))⟩
            · refine b_if_ne C 202 dX9_changeLine_197 (by decide) (show (0 : Int32).toInt = 0 by decide) (fun c32 => absurd c32 (by decide)) (fun c32 => ?_)
              refine v_iconst (v := 0) C dX9_changeLine_200 (by decide) ?_
              exact v_ret C dX9_changeLine_201 rfl rfl ⟨Or.inr ⟨rfl, (by rw [show (fo ln).toInt = 6 by omega]; by_cases q : -6 ≤ (fx ln).toInt ∧ (fx ln).toInt ≤ 6; (rw [an_6y q]; omega); (rw [an_6n q]; omega)), h89, h90, h91⟩, fun j g1 g2 g3 => rfl⟩
      · refine v_iload_n C 3 dX9_changeLine_113 rfl rfl ?_
        refine b_if_ne C 139 dX9_changeLine_114 (by decide) hz (fun c33 => ?_) (fun c33 => ?_)
        · refine v_iconst (v := 0) C dX9_changeLine_139 (by decide) ?_
          exact v_ret C dX9_changeLine_140 rfl rfl ⟨Or.inr ⟨rfl, (by rw [show (fo ln).toInt = 5 by omega]; by_cases q : (fx ln).toInt ≠ 0 ∧ (fx ln).toInt % 1440 = 0; (rw [an_5y q]; omega); (rw [an_5n q]; omega)), h89, h90, h91⟩, fun j g1 g2 g3 => rfl⟩
        · refine v_aload_n C 0 dX9_changeLine_117 rfl rfl ?_
          refine v_getr C 68 dX9_changeLine_118 fX9_91 (by omega) h68 rfl rfl ?_
          refine v_iload_n C 1 dX9_changeLine_121 rfl rfl ?_
          refine v_ald (v := fx ln) C 90 dX9_changeLine_122 (by omega) h90 (ti_in hq (by omega) (by omega)) (by rw [ti_cl hq, show Int.toNat (ln : Int) = ln by omega]) ?_
          refine b_if_eq C 139 dX9_changeLine_123 (by decide) (rfl : Int32.toInt (fx ln) = _) (fun c34 => ?_) (fun c34 => ?_)
          · refine v_iconst (v := 0) C dX9_changeLine_139 (by decide) ?_
            exact v_ret C dX9_changeLine_140 rfl rfl ⟨Or.inr ⟨rfl, (by rw [show (fo ln).toInt = 5 by omega]; by_cases q : (fx ln).toInt ≠ 0 ∧ (fx ln).toInt % 1440 = 0; (rw [an_5y q]; omega); (rw [an_5n q]; omega)), h89, h90, h91⟩, fun j g1 g2 g3 => rfl⟩
          · refine v_aload_n C 0 dX9_changeLine_126 rfl rfl ?_
            refine v_getr C 68 dX9_changeLine_127 fX9_91 (by omega) h68 rfl rfl ?_
            refine v_iload_n C 1 dX9_changeLine_130 rfl rfl ?_
            refine v_ald (v := fx ln) C 90 dX9_changeLine_131 (by omega) h90 (ti_in hq (by omega) (by omega)) (by rw [ti_cl hq, show Int.toNat (ln : Int) = ln by omega]) ?_
            refine v_sipush (v := 1440) C dX9_changeLine_132 (by decide) ?_
            refine v_irem C dX9_changeLine_135 (by decide) ?_
            obtain ⟨R9, hR9, hR0⟩ := trem0 (x := fx ln) rfl (by omega)
            refine b_if_eq C 141 dX9_changeLine_136 (by decide) hR9 (fun c35 => ?_) (fun c35 => ?_)
            · refine v_aload_n C 0 dX9_changeLine_141 rfl rfl ?_
              refine v_getr C 68 dX9_changeLine_142 fX9_88 (by omega) h68 rfl rfl ?_
              refine v_iload_n C 1 dX9_changeLine_145 rfl rfl ?_
              refine v_bipush (v := 6) C dX9_changeLine_146 (by decide) ?_
              refine v_ast C 89 dX9_changeLine_148 (by omega) h89 (ti_in hq (by omega) (by omega)) (fun E36 hE36_89 oE36 => ?_)
              rw [ti_cl hq, show Int.toNat (ln : Int) = ln by omega] at hE36_89
              have hE36_68 := (oE36 68 (by decide)).trans h68
              have hE36_90 := (oE36 90 (by decide)).trans h90
              have hE36_91 := (oE36 91 (by decide)).trans h91
              refine v_aload_n C 0 dX9_changeLine_149 rfl rfl ?_
              refine v_getr C 68 dX9_changeLine_150 fX9_91 (by omega) hE36_68 rfl rfl ?_
              refine v_iload_n C 1 dX9_changeLine_153 rfl rfl ?_
              refine v_dup2_11 C dX9_changeLine_154 rfl rfl ?_
              refine v_ald (v := fx ln) C 90 dX9_changeLine_155 (by omega) hE36_90 (ti_in hq (by omega) (by omega)) (by rw [ti_cl hq, show Int.toNat (ln : Int) = ln by omega]) ?_
              refine v_sipush (v := 1440) C dX9_changeLine_156 (by decide) ?_
              refine v_idiv C dX9_changeLine_159 (by decide) ?_
              obtain ⟨Q9, hQ9, hQ0⟩ := tdiv0 (x := fx ln) rfl
              have hQ1 := hQ0 (by omega)
              refine v_ast C 90 dX9_changeLine_160 (by omega) hE36_90 (ti_in hq (by omega) (by omega)) (fun E37 hE37_90 oE37 => ?_)
              rw [ti_cl hq, show Int.toNat (ln : Int) = ln by omega] at hE37_90
              have hE37_68 := (oE37 68 (by decide)).trans hE36_68
              have hE37_89 := (oE37 89 (by decide)).trans hE36_89
              have hE37_91 := (oE37 91 (by decide)).trans hE36_91
              refine v_iconst (v := 1) C dX9_changeLine_161 (by decide) ?_
              have hcv : c < anN k (fo ln).toInt (fx ln).toInt := by rw [show (fo ln).toInt = 5 by omega, an_5y (by omega)]; omega
              have hO9 : upd fo ln 6 = edO fo ln := edO_of (by rw [show (fo ln).toInt = 5 by omega]; decide)
              have hX9 : upd fx ln ((fx ln) / 1440) = edX fo fx ln c := edX_of (by rw [show (fo ln).toInt = 5 by omega]; show Int32.toInt ((fx ln) / 1440) = (fx ln).toInt / 1440; have := hQ9; omega)
              have hY9 : fy = edY fo fy ln c := edY_id (by rw [show (fo ln).toInt = 5 by omega]; rfl)
              exact v_ret C dX9_changeLine_162 rfl rfl ⟨Or.inl ⟨rfl, hcv, (by rw [← hO9]; exact hE37_89), (by rw [← hX9]; exact hE37_90), (by rw [← hY9]; exact hE37_91)⟩, fun j g1 g2 g3 => ((oE37 j g2).trans (oE36 j g1))⟩
            · refine v_iconst (v := 0) C dX9_changeLine_139 (by decide) ?_
              exact v_ret C dX9_changeLine_140 rfl rfl ⟨Or.inr ⟨rfl, (by rw [show (fo ln).toInt = 5 by omega]; by_cases q : (fx ln).toInt ≠ 0 ∧ (fx ln).toInt % 1440 = 0; (rw [an_5y q]; omega); (rw [an_5n q]; omega)), h89, h90, h91⟩, fun j g1 g2 g3 => rfl⟩
    · refine v_iconst (v := 0) C dX9_changeLine_55 (by decide) ?_
      refine v_istore (lv' := [(0, .ref (ad 68)), (1, .int q), (2, .int z), (3, .int z), (4, .int 0)]) C [1, 2, 3, 4, 0] dX9_changeLine_56 (by decide) rfl ?_
      have LP38 : ∀ (t : Nat) (lf : Int) (y39 : Int32) (z1 : Nat) (y40 : Int32) (E41 : Nat → va_E), (y39.toInt = lf) → (y40.toInt = (z1 : Int)) → (∀ j, E41 j = E j) → (0 ≤ lf) → (z1 ≤ k) → (lf + ((czN (fx ln).toInt z1 : Nat) : Int) = (c : Int)) → (k : Int) - (z1 : Int) < (t : Int) → V X G A 5 (QI X G A (n) ad (fun r E' => CLp G k ln c fo fx fy E' r ∧ ∀ j, j ≠ 89 → j ≠ 90 → j ≠ 91 → E' j = E j)) (n) ad 0 0 E41 58 [(0, .ref (ad 68)), (1, .int q), (2, .int z), (3, .int y39), (4, .int y40)] [] := by
        intro t45
        induction t45 with
        | zero => intro lf y39 z1 y40 E41 hy39 hy40 hfr42 hq43 hq44 hcz hm47; exfalso; omega
        | succ t45 ih46 =>
          intro lf y39 z1 y40 E41 hy39 hy40 hfr42 hq43 hq44 hcz hm47
          have hE41_68 := (hfr42 68 ).trans h68
          have hE41_89 := (hfr42 89 ).trans h89
          have hE41_90 := (hfr42 90 ).trans h90
          have hE41_91 := (hfr42 91 ).trans h91
          refine v_iload C 4 dX9_changeLine_58 rfl ?_
          refine v_aload_n C 0 dX9_changeLine_60 rfl rfl ?_
          refine v_geti (v := im 16) C 68 dX9_changeLine_61 fX9_135 (by omega) hE41_68 rfl rfl ?_
          refine b_icmp_ge C 101 dX9_changeLine_64 (by decide) hy40 hk (fun c48 => ?_) (fun c48 => ?_)
          · refine v_iconst (v := 0) C dX9_changeLine_101 (by decide) ?_
            exact v_ret C dX9_changeLine_102 rfl rfl ⟨Or.inr ⟨rfl, (by rcases (show (fo ln).toInt = 4 ∨ (fo ln).toInt = 1 by omega) with q | q; (rw [q, an_4]; have := cz_k (own := (fx ln).toInt) (k := k) (by omega); have e9 : z1 = k := (by omega); subst e9; omega); (rw [q, an_1]; have := cz_k (own := (fx ln).toInt) (k := k) (by omega); have e9 : z1 = k := (by omega); subst e9; omega)), hE41_89, hE41_90, hE41_91⟩, fun j g1 g2 g3 => (hfr42 j )⟩
          · refine v_iload C 4 dX9_changeLine_67 rfl ?_
            refine v_aload_n C 0 dX9_changeLine_69 rfl rfl ?_
            refine v_getr C 68 dX9_changeLine_70 fX9_91 (by omega) hE41_68 rfl rfl ?_
            refine v_iload_n C 1 dX9_changeLine_73 rfl rfl ?_
            refine v_ald (v := fx ln) C 90 dX9_changeLine_74 (by omega) hE41_90 (ti_in hq (by omega) (by omega)) (by rw [ti_cl hq, show Int.toNat (ln : Int) = ln by omega]) ?_
            refine b_icmp_eq C 95 dX9_changeLine_75 (by decide) hy40 (rfl : Int32.toInt (fx ln) = _) (fun c49 => ?_) (fun c49 => ?_)
            · obtain ⟨x50, ex50⟩ : ∃ y : Int32, y = y40 + 1 := ⟨_, rfl⟩
              have hx50 : x50.toInt = ((z1 : Int) + 1) := by rw [ex50]; exact ti_add hy40 (show (1 : Int32).toInt = 1 by decide) (by omega) (by omega)
              refine v_iinc (v := x50) (lv' := [(0, .ref (ad 68)), (1, .int q), (2, .int z), (3, .int y39), (4, .int x50)]) C 4 [1, 2, 3, 4, 0] dX9_changeLine_95 rfl (ex50.symm) (by decide) rfl ?_
              refine v_goto C 58 dX9_changeLine_98 (by decide) ?_
              exact ih46 lf y39 (z1 + 1) x50 E41 hy39 (show Int32.toInt x50 = ((z1 + 1 : Nat) : Int) by have := hx50; omega) (fun j => (hfr42 j )) (by omega) (by omega) (by have q0 := cz_e (own := (fx ln).toInt) (z := z1) (by omega); omega) (by omega)
            · refine v_iload_n C 3 dX9_changeLine_78 rfl rfl ?_
              refine b_if_ne C 92 dX9_changeLine_79 (by decide) hy39 (fun c51 => ?_) (fun c51 => ?_)
              · obtain ⟨x52, ex52⟩ : ∃ y : Int32, y = y39 + (-1) := ⟨_, rfl⟩
                have hx52 : x52.toInt = (lf + (-1)) := by rw [ex52]; exact ti_add hy39 (show ((-1) : Int32).toInt = (-1) by decide) (by omega) (by omega)
                refine v_iinc (v := x52) (lv' := [(0, .ref (ad 68)), (1, .int q), (2, .int z), (3, .int x52), (4, .int y40)]) C 3 [1, 2, 3, 0, 4] dX9_changeLine_92 rfl (ex52.symm) (by decide) rfl ?_
                obtain ⟨x53, ex53⟩ : ∃ y : Int32, y = y40 + 1 := ⟨_, rfl⟩
                have hx53 : x53.toInt = ((z1 : Int) + 1) := by rw [ex53]; exact ti_add hy40 (show (1 : Int32).toInt = 1 by decide) (by omega) (by omega)
                refine v_iinc (v := x53) (lv' := [(0, .ref (ad 68)), (1, .int q), (2, .int z), (3, .int x52), (4, .int x53)]) C 4 [1, 2, 3, 4, 0] dX9_changeLine_95 rfl (ex53.symm) (by decide) rfl ?_
                refine v_goto C 58 dX9_changeLine_98 (by decide) ?_
                exact ih46 (lf + (-1)) x52 (z1 + 1) x53 E41 hx52 (show Int32.toInt x53 = ((z1 + 1 : Nat) : Int) by have := hx53; omega) (fun j => (hfr42 j )) (by omega) (by omega) (by have q0 := cz_s (own := (fx ln).toInt) (z := z1) (by omega) (by omega); omega) (by omega)
              · refine v_aload_n C 0 dX9_changeLine_82 rfl rfl ?_
                refine v_getr C 68 dX9_changeLine_83 fX9_91 (by omega) hE41_68 rfl rfl ?_
                refine v_iload_n C 1 dX9_changeLine_86 rfl rfl ?_
                refine v_iload C 4 dX9_changeLine_87 rfl ?_
                refine v_ast C 90 dX9_changeLine_89 (by omega) hE41_90 (ti_in hq (by omega) (by omega)) (fun E54 hE54_90 oE54 => ?_)
                rw [ti_cl hq, show Int.toNat (ln : Int) = ln by omega] at hE54_90
                have hE54_68 := (oE54 68 (by decide)).trans hE41_68
                have hE54_89 := (oE54 89 (by decide)).trans hE41_89
                have hE54_91 := (oE54 91 (by decide)).trans hE41_91
                refine v_iconst (v := 1) C dX9_changeLine_90 (by decide) ?_
                have hcv : c < anN k (fo ln).toInt (fx ln).toInt := by have q9 := cz_lt (own := (fx ln).toInt) (z := z1) (k := k) (by omega) (by omega) (by omega) (by omega); rcases (show (fo ln).toInt = 4 ∨ (fo ln).toInt = 1 by omega) with q | q; (rw [q, an_4]; omega); (rw [q, an_1]; omega)
                have hO9 : fo = edO fo ln := edO_id (by rcases (show (fo ln).toInt = 4 ∨ (fo ln).toInt = 1 ∨ (fo ln).toInt = 7 by omega) with q | q | q <;> rw [q] <;> rfl)
                have hX9 : upd fx ln y40 = edX fo fx ln c := edX_of (hy40.trans (by rcases (show (fo ln).toInt = 4 ∨ (fo ln).toInt = 1 by omega) with q | q; (rw [q]; show (z1 : Int) = (if c = 0 then (fx ln).toInt else skp (fx ln).toInt (c - 1)); rw [if_neg (by omega)]; exact skp_cz (by omega) (by omega) (by omega)); (rw [q]; exact skp_cz (by omega) (by omega) (by omega))))
                have hY9 : fy = edY fo fy ln c := edY_id (by rcases (show (fo ln).toInt = 4 ∨ (fo ln).toInt = 1 by omega) with q | q; (rw [q]; show (fy ln).toInt = (if c = 0 then 1 - (fy ln).toInt else (fy ln).toInt); rw [if_neg (by omega)]); (rw [q]; rfl))
                exact v_ret C dX9_changeLine_91 rfl rfl ⟨Or.inl ⟨rfl, hcv, (by rw [← hO9]; exact hE54_89), (by rw [← hX9]; exact hE54_90), (by rw [← hY9]; exact hE54_91)⟩, fun j g1 g2 g3 => ((oE54 j g2).trans (hfr42 j ))⟩
      exact LP38 100000 (c : Int) z 0 0 E hz (show Int32.toInt 0 = ((0 : Nat) : Int) by have := (show (0 : Int32).toInt = 0 by decide); omega) (fun j => rfl) (by omega) (by omega) (by have q0 : czN (fx ln).toInt 0 = 0 := (by unfold czN; rw [if_pos (by omega)]); omega) (by omega)
  · refine v_iload_n C 3 dX9_changeLine_12 rfl rfl ?_
    refine b_if_ne C 32 dX9_changeLine_13 (by decide) hz (fun c55 => ?_) (fun c55 => ?_)
    · obtain ⟨x56, ex56⟩ : ∃ y : Int32, y = z + (-1) := ⟨_, rfl⟩
      have hx56 : x56.toInt = ((c : Int) + (-1)) := by rw [ex56]; exact ti_add hz (show ((-1) : Int32).toInt = (-1) by decide) (by omega) (by omega)
      refine v_iinc (v := x56) (lv' := [(0, .ref (ad 68)), (1, .int q), (2, .int z), (3, .int x56)]) C 3 [1, 2, 3, 0] dX9_changeLine_32 rfl (ex56.symm) (by decide) rfl ?_
      refine v_aload_n C 0 dX9_changeLine_35 rfl rfl ?_
      refine v_getr C 68 dX9_changeLine_36 fX9_88 (by omega) h68 rfl rfl ?_
      refine v_iload_n C 1 dX9_changeLine_39 rfl rfl ?_
      refine v_ald (v := fo ln) C 89 dX9_changeLine_40 (by omega) h89 (ti_in hq (by omega) (by omega)) (by rw [ti_cl hq, show Int.toNat (ln : Int) = ln by omega]) ?_
      refine v_iconst (v := 4) C dX9_changeLine_41 (by decide) ?_
      refine b_icmp_eq C 55 dX9_changeLine_42 (by decide) (rfl : Int32.toInt (fo ln) = _) (show (4 : Int32).toInt = 4 by decide) (fun c57 => ?_) (fun c57 => by exfalso; omega)
      refine v_iconst (v := 0) C dX9_changeLine_55 (by decide) ?_
      refine v_istore (lv' := [(0, .ref (ad 68)), (1, .int q), (2, .int z), (3, .int x56), (4, .int 0)]) C [1, 2, 3, 4, 0] dX9_changeLine_56 (by decide) rfl ?_
      have LP58 : ∀ (t : Nat) (lf : Int) (y59 : Int32) (z1 : Nat) (y60 : Int32) (E61 : Nat → va_E), (y59.toInt = lf) → (y60.toInt = (z1 : Int)) → (∀ j, E61 j = E j) → (0 ≤ lf) → (z1 ≤ k) → (lf + ((czN (fx ln).toInt z1 : Nat) : Int) = ((c : Int) + (-1))) → (k : Int) - (z1 : Int) < (t : Int) → V X G A 5 (QI X G A (n) ad (fun r E' => CLp G k ln c fo fx fy E' r ∧ ∀ j, j ≠ 89 → j ≠ 90 → j ≠ 91 → E' j = E j)) (n) ad 0 0 E61 58 [(0, .ref (ad 68)), (1, .int q), (2, .int z), (3, .int y59), (4, .int y60)] [] := by
        intro t65
        induction t65 with
        | zero => intro lf y59 z1 y60 E61 hy59 hy60 hfr62 hq63 hq64 hcz hm67; exfalso; omega
        | succ t65 ih66 =>
          intro lf y59 z1 y60 E61 hy59 hy60 hfr62 hq63 hq64 hcz hm67
          have hE61_68 := (hfr62 68 ).trans h68
          have hE61_89 := (hfr62 89 ).trans h89
          have hE61_90 := (hfr62 90 ).trans h90
          have hE61_91 := (hfr62 91 ).trans h91
          refine v_iload C 4 dX9_changeLine_58 rfl ?_
          refine v_aload_n C 0 dX9_changeLine_60 rfl rfl ?_
          refine v_geti (v := im 16) C 68 dX9_changeLine_61 fX9_135 (by omega) hE61_68 rfl rfl ?_
          refine b_icmp_ge C 101 dX9_changeLine_64 (by decide) hy60 hk (fun c68 => ?_) (fun c68 => ?_)
          · refine v_iconst (v := 0) C dX9_changeLine_101 (by decide) ?_
            exact v_ret C dX9_changeLine_102 rfl rfl ⟨Or.inr ⟨rfl, (by rcases (show (fo ln).toInt = 4 ∨ (fo ln).toInt = 1 by omega) with q | q; (rw [q, an_4]; have := cz_k (own := (fx ln).toInt) (k := k) (by omega); have e9 : z1 = k := (by omega); subst e9; omega); (rw [q, an_1]; have := cz_k (own := (fx ln).toInt) (k := k) (by omega); have e9 : z1 = k := (by omega); subst e9; omega)), hE61_89, hE61_90, hE61_91⟩, fun j g1 g2 g3 => (hfr62 j )⟩
          · refine v_iload C 4 dX9_changeLine_67 rfl ?_
            refine v_aload_n C 0 dX9_changeLine_69 rfl rfl ?_
            refine v_getr C 68 dX9_changeLine_70 fX9_91 (by omega) hE61_68 rfl rfl ?_
            refine v_iload_n C 1 dX9_changeLine_73 rfl rfl ?_
            refine v_ald (v := fx ln) C 90 dX9_changeLine_74 (by omega) hE61_90 (ti_in hq (by omega) (by omega)) (by rw [ti_cl hq, show Int.toNat (ln : Int) = ln by omega]) ?_
            refine b_icmp_eq C 95 dX9_changeLine_75 (by decide) hy60 (rfl : Int32.toInt (fx ln) = _) (fun c69 => ?_) (fun c69 => ?_)
            · obtain ⟨x70, ex70⟩ : ∃ y : Int32, y = y60 + 1 := ⟨_, rfl⟩
              have hx70 : x70.toInt = ((z1 : Int) + 1) := by rw [ex70]; exact ti_add hy60 (show (1 : Int32).toInt = 1 by decide) (by omega) (by omega)
              refine v_iinc (v := x70) (lv' := [(0, .ref (ad 68)), (1, .int q), (2, .int z), (3, .int y59), (4, .int x70)]) C 4 [1, 2, 3, 4, 0] dX9_changeLine_95 rfl (ex70.symm) (by decide) rfl ?_
              refine v_goto C 58 dX9_changeLine_98 (by decide) ?_
              exact ih66 lf y59 (z1 + 1) x70 E61 hy59 (show Int32.toInt x70 = ((z1 + 1 : Nat) : Int) by have := hx70; omega) (fun j => (hfr62 j )) (by omega) (by omega) (by have q0 := cz_e (own := (fx ln).toInt) (z := z1) (by omega); omega) (by omega)
            · refine v_iload_n C 3 dX9_changeLine_78 rfl rfl ?_
              refine b_if_ne C 92 dX9_changeLine_79 (by decide) hy59 (fun c71 => ?_) (fun c71 => ?_)
              · obtain ⟨x72, ex72⟩ : ∃ y : Int32, y = y59 + (-1) := ⟨_, rfl⟩
                have hx72 : x72.toInt = (lf + (-1)) := by rw [ex72]; exact ti_add hy59 (show ((-1) : Int32).toInt = (-1) by decide) (by omega) (by omega)
                refine v_iinc (v := x72) (lv' := [(0, .ref (ad 68)), (1, .int q), (2, .int z), (3, .int x72), (4, .int y60)]) C 3 [1, 2, 3, 0, 4] dX9_changeLine_92 rfl (ex72.symm) (by decide) rfl ?_
                obtain ⟨x73, ex73⟩ : ∃ y : Int32, y = y60 + 1 := ⟨_, rfl⟩
                have hx73 : x73.toInt = ((z1 : Int) + 1) := by rw [ex73]; exact ti_add hy60 (show (1 : Int32).toInt = 1 by decide) (by omega) (by omega)
                refine v_iinc (v := x73) (lv' := [(0, .ref (ad 68)), (1, .int q), (2, .int z), (3, .int x72), (4, .int x73)]) C 4 [1, 2, 3, 4, 0] dX9_changeLine_95 rfl (ex73.symm) (by decide) rfl ?_
                refine v_goto C 58 dX9_changeLine_98 (by decide) ?_
                exact ih66 (lf + (-1)) x72 (z1 + 1) x73 E61 hx72 (show Int32.toInt x73 = ((z1 + 1 : Nat) : Int) by have := hx73; omega) (fun j => (hfr62 j )) (by omega) (by omega) (by have q0 := cz_s (own := (fx ln).toInt) (z := z1) (by omega) (by omega); omega) (by omega)
              · refine v_aload_n C 0 dX9_changeLine_82 rfl rfl ?_
                refine v_getr C 68 dX9_changeLine_83 fX9_91 (by omega) hE61_68 rfl rfl ?_
                refine v_iload_n C 1 dX9_changeLine_86 rfl rfl ?_
                refine v_iload C 4 dX9_changeLine_87 rfl ?_
                refine v_ast C 90 dX9_changeLine_89 (by omega) hE61_90 (ti_in hq (by omega) (by omega)) (fun E74 hE74_90 oE74 => ?_)
                rw [ti_cl hq, show Int.toNat (ln : Int) = ln by omega] at hE74_90
                have hE74_68 := (oE74 68 (by decide)).trans hE61_68
                have hE74_89 := (oE74 89 (by decide)).trans hE61_89
                have hE74_91 := (oE74 91 (by decide)).trans hE61_91
                refine v_iconst (v := 1) C dX9_changeLine_90 (by decide) ?_
                have hcv : c < anN k (fo ln).toInt (fx ln).toInt := by have q9 := cz_lt (own := (fx ln).toInt) (z := z1) (k := k) (by omega) (by omega) (by omega) (by omega); rcases (show (fo ln).toInt = 4 ∨ (fo ln).toInt = 1 by omega) with q | q; (rw [q, an_4]; omega); (rw [q, an_1]; omega)
                have hO9 : fo = edO fo ln := edO_id (by rcases (show (fo ln).toInt = 4 ∨ (fo ln).toInt = 1 ∨ (fo ln).toInt = 7 by omega) with q | q | q <;> rw [q] <;> rfl)
                have hX9 : upd fx ln y60 = edX fo fx ln c := edX_of (hy60.trans (by rcases (show (fo ln).toInt = 4 ∨ (fo ln).toInt = 1 by omega) with q | q; (rw [q]; show (z1 : Int) = (if c = 0 then (fx ln).toInt else skp (fx ln).toInt (c - 1)); rw [if_neg (by omega)]; exact skp_cz (by omega) (by omega) (by omega)); (rw [q]; exact skp_cz (by omega) (by omega) (by omega))))
                have hY9 : fy = edY fo fy ln c := edY_id (by rcases (show (fo ln).toInt = 4 ∨ (fo ln).toInt = 1 by omega) with q | q; (rw [q]; show (fy ln).toInt = (if c = 0 then 1 - (fy ln).toInt else (fy ln).toInt); rw [if_neg (by omega)]); (rw [q]; rfl))
                exact v_ret C dX9_changeLine_91 rfl rfl ⟨Or.inl ⟨rfl, hcv, (by rw [← hO9]; exact hE74_89), (by rw [← hX9]; exact hE74_90), (by rw [← hY9]; exact hE74_91)⟩, fun j g1 g2 g3 => ((oE74 j g2).trans (hfr62 j ))⟩
      exact LP58 100000 ((c : Int) + (-1)) x56 0 0 E hx56 (show Int32.toInt 0 = ((0 : Nat) : Int) by have := (show (0 : Int32).toInt = 0 by decide); omega) (fun j => rfl) (by omega) (by omega) (by have q0 : czN (fx ln).toInt 0 = 0 := (by unfold czN; rw [if_pos (by omega)]); omega) (by omega)
    · refine v_aload_n C 0 dX9_changeLine_16 rfl rfl ?_
      refine v_getr C 68 dX9_changeLine_17 fX9_94 (by omega) h68 rfl rfl ?_
      refine v_iload_n C 1 dX9_changeLine_20 rfl rfl ?_
      refine v_iconst (v := 1) C dX9_changeLine_21 (by decide) ?_
      refine v_aload_n C 0 dX9_changeLine_22 rfl rfl ?_
      refine v_getr C 68 dX9_changeLine_23 fX9_94 (by omega) h68 rfl rfl ?_
      refine v_iload_n C 1 dX9_changeLine_26 rfl rfl ?_
      refine v_ald (v := fy ln) C 91 dX9_changeLine_27 (by omega) h91 (ti_in hq (by omega) (by omega)) (by rw [ti_cl hq, show Int.toNat (ln : Int) = ln by omega]) ?_
      refine v_isub C dX9_changeLine_28 ?_
      refine v_top (fun x75 ex75 => ?_)
      have hx75 : x75.toInt = (1 - (fy ln).toInt) := by rw [ex75]; exact ti_sub (show (1 : Int32).toInt = 1 by decide) (rfl : Int32.toInt (fy ln) = _) (by omega) (by omega)
      refine v_ast C 91 dX9_changeLine_29 (by omega) h91 (ti_in hq (by omega) (by omega)) (fun E76 hE76_91 oE76 => ?_)
      rw [ti_cl hq, show Int.toNat (ln : Int) = ln by omega] at hE76_91
      have hE76_68 := (oE76 68 (by decide)).trans h68
      have hE76_89 := (oE76 89 (by decide)).trans h89
      have hE76_90 := (oE76 90 (by decide)).trans h90
      refine v_iconst (v := 1) C dX9_changeLine_30 (by decide) ?_
      have hcv : c < anN k (fo ln).toInt (fx ln).toInt := by rw [show (fo ln).toInt = 4 by omega, an_4]; omega
      have hO9 : fo = edO fo ln := edO_id (by rcases (show (fo ln).toInt = 4 ∨ (fo ln).toInt = 1 ∨ (fo ln).toInt = 7 by omega) with q | q | q <;> rw [q] <;> rfl)
      have hX9 : fx = edX fo fx ln c := edX_id (by rw [show (fo ln).toInt = 4 by omega, show c = 0 by omega]; rfl)
      have hY9 : upd fy ln x75 = edY fo fy ln c := edY_of (by rw [show (fo ln).toInt = 4 by omega, show c = 0 by omega]; show Int32.toInt x75 = 1 - (fy ln).toInt; exact hx75)
      exact v_ret C dX9_changeLine_31 rfl rfl ⟨Or.inl ⟨rfl, hcv, (by rw [← hO9]; exact hE76_89), (by rw [← hX9]; exact hE76_90), (by rw [← hY9]; exact hE76_91)⟩, fun j g1 g2 g3 => (oE76 j g3)⟩

