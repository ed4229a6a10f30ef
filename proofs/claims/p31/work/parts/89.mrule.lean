set_option maxRecDepth 20000 in
theorem t_X9_rule (l : Launch) (G : Gl) (ad : Nat → Nat) {n : Nat} {ic md : Nat → Int32} {bd : Nat → Int × Int} {E0 E : Nat → va_E} (hJ : JM G ad n ic md bd PU E0 E) (x : Int32) (y : Int32) (z : Int32) (u : Int32) (v : Int32) : CtI l G yX9_rule cX9_rule 7 .int 1 22 (n) ad E [.ref (ad 68), .int x, .int y, .int z, .int u, .int v] (fun r E' => ((-2147483648 : Int) ≤ r.toInt ∧ r.toInt ≤ 2147483647) ∧ JM G ad n ic md bd PU E0 E') := by
  refine CtI.of (by decide) (Nat.le_of_ble_eq_true rfl) (fun X A C => ?_)
  refine v_sub (lv' := [(0, .ref (ad 68)), (1, .int x), (2, .int y), (3, .int z), (4, .int u), (5, .int v)]) [0, 1, 2, 3, 4, 5] rfl ?_
  have hn := hJ.hn
  have hz16 := hJ.2.2.2.2
  refine v_aload_n C 0 dX9_rule_0 rfl rfl ?_
  refine v_iload_n C 1 dX9_rule_1 rfl rfl ?_
  obtain ⟨im3, hM3, hb3⟩ := hJ.1
  have hq3 := hM3.b
  refine v_cVp C dX9_rule_2 lX9_162 mX9_isZone 68 (by omega) hM3.2.2.1 (by decide) rfl (t_X9_isZone l G ad hJ.self x) ⟨by decide, by decide⟩ rfl (Nat.le_of_ble_eq_true rfl) ⟨Nat.zero_le _, Nat.zero_le _⟩ (fun r1 hp2 => ?_)
  rcases hp2 with ⟨rfl, hp2⟩ | ⟨rfl, hp2⟩
  · refine b_if_eq C 94 dX9_rule_5 (by decide) (show (1 : Int32).toInt = 1 by decide) (fun c4 => absurd c4 (by decide)) (fun c4 => ?_)
    refine v_iload_n C 2 dX9_rule_8 rfl rfl ?_
    refine b_if_lt C 94 dX9_rule_9 (by decide) (rfl : Int32.toInt y = _) (fun c5 => ?_) (fun c5 => ?_)
    · refine v_iconst (v := (-1)) C dX9_rule_94 (by decide) ?_
      exact v_ret C dX9_rule_95 rfl rfl ⟨(ti_any (-1)), hJ⟩
    · refine v_iload_n C 2 dX9_rule_12 rfl rfl ?_
      refine v_bipush (v := 100) C dX9_rule_13 (by decide) ?_
      refine v_idiv C dX9_rule_15 (by decide) ?_
      have := ti_any y
      refine v_top (fun x6 ex6 => ?_)
      have hx6 : x6.toInt = (y.toInt / 100) := by rw [ex6]; exact ti_div (rfl : Int32.toInt y = _) (show (100 : Int32).toInt = 100 by decide) (by omega) (by omega)
      refine v_bipush (v := 100) C dX9_rule_16 (by decide) ?_
      refine b_icmp_ge C 94 dX9_rule_18 (by decide) hx6 (show (100 : Int32).toInt = 100 by decide) (fun c7 => ?_) (fun c7 => ?_)
      · refine v_iconst (v := (-1)) C dX9_rule_94 (by decide) ?_
        exact v_ret C dX9_rule_95 rfl rfl ⟨(ti_any (-1)), hJ⟩
      · refine v_iload_n C 2 dX9_rule_21 rfl rfl ?_
        refine v_bipush (v := 100) C dX9_rule_22 (by decide) ?_
        refine v_idiv C dX9_rule_24 (by decide) ?_
        have := ti_any y
        refine v_top (fun x8 ex8 => ?_)
        have hx8 : x8.toInt = (y.toInt / 100) := by rw [ex8]; exact ti_div (rfl : Int32.toInt y = _) (show (100 : Int32).toInt = 100 by decide) (by omega) (by omega)
        refine v_iload_n C 2 dX9_rule_25 rfl rfl ?_
        refine v_bipush (v := 100) C dX9_rule_26 (by decide) ?_
        refine v_irem C dX9_rule_28 (by decide) ?_
        have := ti_any y
        refine v_top (fun x9 ex9 => ?_)
        have hx9 : x9.toInt = (y.toInt % 100) := by rw [ex9]; exact ti_rem (rfl : Int32.toInt y = _) (show (100 : Int32).toInt = 100 by decide) (by omega) (by omega)
        refine b_icmp_gt C 94 dX9_rule_29 (by decide) hx8 hx9 (fun c10 => ?_) (fun c10 => ?_)
        · refine v_iconst (v := (-1)) C dX9_rule_94 (by decide) ?_
          exact v_ret C dX9_rule_95 rfl rfl ⟨(ti_any (-1)), hJ⟩
        · refine v_iload_n C 3 dX9_rule_32 rfl rfl ?_
          refine b_if_lt C 94 dX9_rule_33 (by decide) (rfl : Int32.toInt z = _) (fun c11 => ?_) (fun c11 => ?_)
          · refine v_iconst (v := (-1)) C dX9_rule_94 (by decide) ?_
            exact v_ret C dX9_rule_95 rfl rfl ⟨(ti_any (-1)), hJ⟩
          · refine v_iload_n C 3 dX9_rule_36 rfl rfl ?_
            refine v_sipush (v := 1000) C dX9_rule_37 (by decide) ?_
            refine v_idiv C dX9_rule_40 (by decide) ?_
            have := ti_any z
            refine v_top (fun x12 ex12 => ?_)
            have hx12 : x12.toInt = (z.toInt / 1000) := by rw [ex12]; exact ti_div (rfl : Int32.toInt z = _) (show (1000 : Int32).toInt = 1000 by decide) (by omega) (by omega)
            refine v_bipush (v := 12) C dX9_rule_41 (by decide) ?_
            refine b_icmp_ge C 94 dX9_rule_43 (by decide) hx12 (show (12 : Int32).toInt = 12 by decide) (fun c13 => ?_) (fun c13 => ?_)
            · refine v_iconst (v := (-1)) C dX9_rule_94 (by decide) ?_
              exact v_ret C dX9_rule_95 rfl rfl ⟨(ti_any (-1)), hJ⟩
            · refine v_iload_n C 3 dX9_rule_46 rfl rfl ?_
              refine v_bipush (v := 10) C dX9_rule_47 (by decide) ?_
              refine v_idiv C dX9_rule_49 (by decide) ?_
              have := ti_any z
              refine v_top (fun x14 ex14 => ?_)
              have hx14 : x14.toInt = (z.toInt / 10) := by rw [ex14]; exact ti_div (rfl : Int32.toInt z = _) (show (10 : Int32).toInt = 10 by decide) (by omega) (by omega)
              refine v_bipush (v := 100) C dX9_rule_50 (by decide) ?_
              refine v_irem C dX9_rule_52 (by decide) ?_
              refine v_top (fun x15 ex15 => ?_)
              have hx15 : x15.toInt = ((z.toInt / 10) % 100) := by rw [ex15]; exact ti_rem hx14 (show (100 : Int32).toInt = 100 by decide) (by omega) (by omega)
              refine v_aload_n C 0 dX9_rule_53 rfl rfl ?_
              refine v_geti (v := im3 4) C 68 dX9_rule_54 fX9_23 (by omega) hM3.2.2.1 rfl rfl ?_
              refine b_icmp_ge C 94 dX9_rule_57 (by decide) hx15 (rfl : Int32.toInt (im3 4) = _) (fun c16 => ?_) (fun c16 => ?_)
              · refine v_iconst (v := (-1)) C dX9_rule_94 (by decide) ?_
                exact v_ret C dX9_rule_95 rfl rfl ⟨(ti_any (-1)), hJ⟩
              · refine v_iload_n C 3 dX9_rule_60 rfl rfl ?_
                refine v_bipush (v := 10) C dX9_rule_61 (by decide) ?_
                refine v_irem C dX9_rule_63 (by decide) ?_
                have := ti_any z
                refine v_top (fun x17 ex17 => ?_)
                have hx17 : x17.toInt = (z.toInt % 10) := by rw [ex17]; exact ti_rem (rfl : Int32.toInt z = _) (show (10 : Int32).toInt = 10 by decide) (by omega) (by omega)
                refine v_iconst (v := 4) C dX9_rule_64 (by decide) ?_
                refine b_icmp_gt C 94 dX9_rule_65 (by decide) hx17 (show (4 : Int32).toInt = 4 by decide) (fun c18 => ?_) (fun c18 => ?_)
                · refine v_iconst (v := (-1)) C dX9_rule_94 (by decide) ?_
                  exact v_ret C dX9_rule_95 rfl rfl ⟨(ti_any (-1)), hJ⟩
                · refine v_iload C 4 dX9_rule_68 rfl ?_
                  refine v_iconst (v := 0) C dX9_rule_70 (by decide) ?_
                  refine v_sipush (v := 1439) C dX9_rule_71 (by decide) ?_
                  refine v_cSp C dX9_rule_74 lX9_131 mX9_within (t_X9_within l G ad hJ.self u 0 1439) ⟨by decide, by decide⟩ rfl (Nat.le_of_ble_eq_true rfl) ⟨Nat.zero_le _, Nat.zero_le _⟩ (fun r19 hp20 => ?_)
                  have := (show (0 : Int32).toInt = 0 by decide)
                  have := (show (1439 : Int32).toInt = 1439 by decide)
                  rcases hp20 with ⟨rfl, hp20⟩ | ⟨rfl, hp20⟩
                  · refine b_if_eq C 94 dX9_rule_77 (by decide) (show (1 : Int32).toInt = 1 by decide) (fun c21 => absurd c21 (by decide)) (fun c21 => ?_)
                    refine v_iload C 5 dX9_rule_80 rfl ?_
                    refine v_sipush (v := (-720)) C dX9_rule_82 (by decide) ?_
                    refine v_sipush (v := 720) C dX9_rule_85 (by decide) ?_
                    refine v_cSp C dX9_rule_88 lX9_131 mX9_within (t_X9_within l G ad hJ.self v (-720) 720) ⟨by decide, by decide⟩ rfl (Nat.le_of_ble_eq_true rfl) ⟨Nat.zero_le _, Nat.zero_le _⟩ (fun r22 hp23 => ?_)
                    have := (show ((-720) : Int32).toInt = (-720) by decide)
                    have := (show (720 : Int32).toInt = 720 by decide)
                    rcases hp23 with ⟨rfl, hp23⟩ | ⟨rfl, hp23⟩
                    · refine b_if_ne C 96 dX9_rule_91 (by decide) (show (1 : Int32).toInt = 1 by decide) (fun c24 => ?_) (fun c24 => absurd c24 (by decide))
                      refine v_aload_n C 0 dX9_rule_96 rfl rfl ?_
                      refine v_getr C 68 dX9_rule_97 fX9_50 (by omega) hM3.2.2.1 rfl rfl ?_
                      refine v_iload_n C 1 dX9_rule_100 rfl rfl ?_
                      obtain ⟨f26, hE26, hb26⟩ := hJ.2.1.getA (b := 78) (by omega) rfl
                      refine v_ald (v := f26 (x.toInt).toNat) C 78 dX9_rule_101 (by omega) hE26 (ti_in (rfl : Int32.toInt x = _) (by omega) (by omega)) (by rw [ti_cl (rfl : Int32.toInt x = _)]) ?_
                      refine v_top (fun x27 ex27 => ?_)
                      have hx27 : (0 : Int) ≤ x27.toInt ∧ x27.toInt ≤ 8 := by rw [ex27]; exact hb26 _
                      refine v_bipush (v := 8) C dX9_rule_102 (by decide) ?_
                      refine b_icmp_ne C 110 dX9_rule_104 (by decide) (rfl : Int32.toInt x27 = _) (show (8 : Int32).toInt = 8 by decide) (fun c28 => ?_) (fun c28 => ?_)
                      · refine v_bipush (v := 8) C dX9_rule_110 (by decide) ?_
                        refine v_iload_n C 1 dX9_rule_112 rfl rfl ?_
                        refine v_imul C dX9_rule_113 ?_
                        refine v_top (fun x29 ex29 => ?_)
                        have hx29 : x29.toInt = (8 * x.toInt) := by rw [ex29]; exact ti_mul (show (8 : Int32).toInt = 8 by decide) (rfl : Int32.toInt x = _) (by omega) (by omega)
                        refine v_aload_n C 0 dX9_rule_114 rfl rfl ?_
                        refine v_getr C 68 dX9_rule_115 fX9_50 (by omega) hM3.2.2.1 rfl rfl ?_
                        refine v_iload_n C 1 dX9_rule_118 rfl rfl ?_
                        refine v_ald (v := f26 (x.toInt).toNat) C 78 dX9_rule_119 (by omega) hE26 (ti_in (rfl : Int32.toInt x = _) (by omega) (by omega)) (by rw [ti_cl (rfl : Int32.toInt x = _)]) ?_
                        refine v_top (fun x30 ex30 => ?_)
                        have hx30 : (0 : Int) ≤ x30.toInt ∧ x30.toInt ≤ 8 := by rw [ex30]; exact hb26 _
                        have hs31 : x30.toInt = x27.toInt := by rw [ex30, ex27]
                        refine v_iadd C dX9_rule_120 ?_
                        refine v_top (fun x32 ex32 => ?_)
                        have hx32 : x32.toInt = ((8 * x.toInt) + x30.toInt) := by rw [ex32]; exact ti_add hx29 (rfl : Int32.toInt x30 = _) (by omega) (by omega)
                        refine v_istore (lv' := [(0, .ref (ad 68)), (1, .int x), (2, .int y), (3, .int z), (4, .int u), (5, .int v), (6, .int x32)]) C [1, 2, 3, 4, 5, 6, 0] dX9_rule_121 (by decide) rfl ?_
                        refine v_aload_n C 0 dX9_rule_123 rfl rfl ?_
                        refine v_getr C 68 dX9_rule_124 fX9_32 (by omega) hM3.2.2.1 rfl rfl ?_
                        refine v_iload C 6 dX9_rule_127 rfl ?_
                        refine v_iload_n C 2 dX9_rule_129 rfl rfl ?_
                        refine v_bipush (v := 100) C dX9_rule_130 (by decide) ?_
                        refine v_idiv C dX9_rule_132 (by decide) ?_
                        have := ti_any y
                        refine v_top (fun x33 ex33 => ?_)
                        have hx33 : x33.toInt = (y.toInt / 100) := by rw [ex33]; exact ti_div (rfl : Int32.toInt y = _) (show (100 : Int32).toInt = 100 by decide) (by omega) (by omega)
                        obtain ⟨f35, hE35, hb35⟩ := hJ.2.1.getA (b := 72) (by omega) rfl
                        refine v_ast C 72 dX9_rule_133 (by omega) hE35 (ti_in hx32 (by omega) (by omega)) (fun E36 hE36_72 oE36 => ?_)
                        rw [ti_cl hx32] at hE36_72
                        have hE36_68 := (oE36 68 (by decide)).trans hM3.2.2.1
                        have hE36_78 := (oE36 78 (by decide)).trans hE26
                        have hJ37 := hJ.with (hJ.2.1.setA rfl (by unfold PU; omega) hb35 (show (0 : Int) ≤ Int32.toInt x33 ∧ Int32.toInt x33 ≤ 99 by have := hx33; omega) hE36_72 oE36) (oE36 68 (by decide)) (oE36 69 (by decide)) (oE36 70 (by decide))
                        have hM38 := hM3.of (oE36 68 (by decide)) (oE36 69 (by decide)) (oE36 70 (by decide))
                        refine v_aload_n C 0 dX9_rule_134 rfl rfl ?_
                        refine v_getr C 68 dX9_rule_135 fX9_35 (by omega) hM38.2.2.1 rfl rfl ?_
                        refine v_iload C 6 dX9_rule_138 rfl ?_
                        refine v_iload_n C 2 dX9_rule_140 rfl rfl ?_
                        refine v_bipush (v := 100) C dX9_rule_141 (by decide) ?_
                        refine v_irem C dX9_rule_143 (by decide) ?_
                        have := ti_any y
                        refine v_top (fun x39 ex39 => ?_)
                        have hx39 : x39.toInt = (y.toInt % 100) := by rw [ex39]; exact ti_rem (rfl : Int32.toInt y = _) (show (100 : Int32).toInt = 100 by decide) (by omega) (by omega)
                        obtain ⟨f41, hE41, hb41⟩ := hJ37.2.1.getA (b := 73) (by omega) rfl
                        refine v_ast C 73 dX9_rule_144 (by omega) hE41 (ti_in hx32 (by omega) (by omega)) (fun E42 hE42_73 oE42 => ?_)
                        rw [ti_cl hx32] at hE42_73
                        have hE42_68 := (oE42 68 (by decide)).trans hM38.2.2.1
                        have hE42_78 := (oE42 78 (by decide)).trans hE36_78
                        have hJ43 := hJ37.with (hJ37.2.1.setA rfl (by unfold PU; omega) hb41 (show (0 : Int) ≤ Int32.toInt x39 ∧ Int32.toInt x39 ≤ 99 by have := hx39; omega) hE42_73 oE42) (oE42 68 (by decide)) (oE42 69 (by decide)) (oE42 70 (by decide))
                        have hM44 := hM38.of (oE42 68 (by decide)) (oE42 69 (by decide)) (oE42 70 (by decide))
                        refine v_aload_n C 0 dX9_rule_145 rfl rfl ?_
                        refine v_getr C 68 dX9_rule_146 fX9_38 (by omega) hM44.2.2.1 rfl rfl ?_
                        refine v_iload C 6 dX9_rule_149 rfl ?_
                        refine v_iload_n C 3 dX9_rule_151 rfl rfl ?_
                        obtain ⟨f46, hE46, hb46⟩ := hJ43.2.1.getA (b := 74) (by omega) rfl
                        refine v_ast C 74 dX9_rule_152 (by omega) hE46 (ti_in hx32 (by omega) (by omega)) (fun E47 hE47_74 oE47 => ?_)
                        rw [ti_cl hx32] at hE47_74
                        have hE47_68 := (oE47 68 (by decide)).trans hM44.2.2.1
                        have hE47_78 := (oE47 78 (by decide)).trans hE42_78
                        have hJ48 := hJ43.with (hJ43.2.1.setA rfl (by unfold PU; omega) hb46 (show (0 : Int) ≤ Int32.toInt z ∧ Int32.toInt z ≤ 11999 by omega) hE47_74 oE47) (oE47 68 (by decide)) (oE47 69 (by decide)) (oE47 70 (by decide))
                        have hM49 := hM44.of (oE47 68 (by decide)) (oE47 69 (by decide)) (oE47 70 (by decide))
                        refine v_aload_n C 0 dX9_rule_153 rfl rfl ?_
                        refine v_getr C 68 dX9_rule_154 fX9_41 (by omega) hM49.2.2.1 rfl rfl ?_
                        refine v_iload C 6 dX9_rule_157 rfl ?_
                        refine v_iload C 4 dX9_rule_159 rfl ?_
                        obtain ⟨f51, hE51, hb51⟩ := hJ48.2.1.getA (b := 75) (by omega) rfl
                        refine v_ast C 75 dX9_rule_161 (by omega) hE51 (ti_in hx32 (by omega) (by omega)) (fun E52 hE52_75 oE52 => ?_)
                        rw [ti_cl hx32] at hE52_75
                        have hE52_68 := (oE52 68 (by decide)).trans hM49.2.2.1
                        have hE52_78 := (oE52 78 (by decide)).trans hE47_78
                        have hJ53 := hJ48.with (hJ48.2.1.setA rfl (by unfold PU; omega) hb51 (ti_any u) hE52_75 oE52) (oE52 68 (by decide)) (oE52 69 (by decide)) (oE52 70 (by decide))
                        have hM54 := hM49.of (oE52 68 (by decide)) (oE52 69 (by decide)) (oE52 70 (by decide))
                        refine v_aload_n C 0 dX9_rule_162 rfl rfl ?_
                        refine v_getr C 68 dX9_rule_163 fX9_44 (by omega) hM54.2.2.1 rfl rfl ?_
                        refine v_iload C 6 dX9_rule_166 rfl ?_
                        refine v_iload C 5 dX9_rule_168 rfl ?_
                        obtain ⟨f56, hE56, hb56⟩ := hJ53.2.1.getA (b := 76) (by omega) rfl
                        refine v_ast C 76 dX9_rule_170 (by omega) hE56 (ti_in hx32 (by omega) (by omega)) (fun E57 hE57_76 oE57 => ?_)
                        rw [ti_cl hx32] at hE57_76
                        have hE57_68 := (oE57 68 (by decide)).trans hM54.2.2.1
                        have hE57_78 := (oE57 78 (by decide)).trans hE52_78
                        have hJ58 := hJ53.with (hJ53.2.1.setA rfl (by unfold PU; omega) hb56 (ti_any v) hE57_76 oE57) (oE57 68 (by decide)) (oE57 69 (by decide)) (oE57 70 (by decide))
                        have hM59 := hM54.of (oE57 68 (by decide)) (oE57 69 (by decide)) (oE57 70 (by decide))
                        refine v_aload_n C 0 dX9_rule_171 rfl rfl ?_
                        refine v_getr C 68 dX9_rule_172 fX9_47 (by omega) hM59.2.2.1 rfl rfl ?_
                        refine v_iload C 6 dX9_rule_175 rfl ?_
                        refine v_aload_n C 0 dX9_rule_177 rfl rfl ?_
                        refine v_geti (v := im3 17) C 68 dX9_rule_178 fX9_165 (by omega) hM59.2.2.1 rfl rfl ?_
                        obtain ⟨f61, hE61, hb61⟩ := hJ58.2.1.getA (b := 77) (by omega) rfl
                        refine v_ast C 77 dX9_rule_181 (by omega) hE61 (ti_in hx32 (by omega) (by omega)) (fun E62 hE62_77 oE62 => ?_)
                        rw [ti_cl hx32] at hE62_77
                        have hE62_68 := (oE62 68 (by decide)).trans hM59.2.2.1
                        have hE62_78 := (oE62 78 (by decide)).trans hE57_78
                        have hJ63 := hJ58.with (hJ58.2.1.setA rfl (by unfold PU; omega) hb61 (ti_any (im3 17)) hE62_77 oE62) (oE62 68 (by decide)) (oE62 69 (by decide)) (oE62 70 (by decide))
                        have hM64 := hM59.of (oE62 68 (by decide)) (oE62 69 (by decide)) (oE62 70 (by decide))
                        refine v_aload_n C 0 dX9_rule_182 rfl rfl ?_
                        refine v_getr C 68 dX9_rule_183 fX9_50 (by omega) hM64.2.2.1 rfl rfl ?_
                        refine v_iload_n C 1 dX9_rule_186 rfl rfl ?_
                        refine v_dup2_11 C dX9_rule_187 rfl rfl ?_
                        refine v_ald (v := f26 (x.toInt).toNat) C 78 dX9_rule_188 (by omega) hE62_78 (ti_in (rfl : Int32.toInt x = _) (by omega) (by omega)) (by rw [ti_cl (rfl : Int32.toInt x = _)]) ?_
                        refine v_top (fun x65 ex65 => ?_)
                        have hx65 : (0 : Int) ≤ x65.toInt ∧ x65.toInt ≤ 8 := by rw [ex65]; exact hb26 _
                        have hs66 : x65.toInt = x27.toInt := by rw [ex65, ex27]
                        refine v_iconst (v := 1) C dX9_rule_189 (by decide) ?_
                        refine v_iadd C dX9_rule_190 ?_
                        refine v_top (fun x67 ex67 => ?_)
                        have hx67 : x67.toInt = (x65.toInt + 1) := by rw [ex67]; exact ti_add (rfl : Int32.toInt x65 = _) (show (1 : Int32).toInt = 1 by decide) (by omega) (by omega)
                        refine v_ast C 78 dX9_rule_191 (by omega) hE62_78 (ti_in (rfl : Int32.toInt x = _) (by omega) (by omega)) (fun E68 hE68_78 oE68 => ?_)
                        rw [ti_cl (rfl : Int32.toInt x = _)] at hE68_78
                        have hE68_68 := (oE68 68 (by decide)).trans hM64.2.2.1
                        have hJ69 := hJ63.with (hJ63.2.1.setA rfl (by unfold PU; omega) hb26 (show (0 : Int) ≤ Int32.toInt x67 ∧ Int32.toInt x67 ≤ 8 by have := hx67; omega) hE68_78 oE68) (oE68 68 (by decide)) (oE68 69 (by decide)) (oE68 70 (by decide))
                        have hM70 := hM64.of (oE68 68 (by decide)) (oE68 69 (by decide)) (oE68 70 (by decide))
                        refine v_aload_n C 0 dX9_rule_192 rfl rfl ?_
                        refine v_cVv C dX9_rule_193 lX9_159 mX9_forget 68 (by omega) hM70.2.2.1 (by decide) rfl (t_X9_forget l G ad hJ69.self ) ⟨by decide, by decide⟩ rfl (Nat.le_of_ble_eq_true rfl) ⟨Nat.zero_le _, Nat.zero_le _⟩ (fun E72 hJ74 => ?_)
                        have hJ75 := hJ69.trans (fun _ => PU_PR) hJ74
                        refine v_aload_n C 0 dX9_rule_196 rfl rfl ?_
                        obtain ⟨im76, hM76, hb76⟩ := hJ75.1
                        have hq76 := hM76.b
                        refine v_getr C 68 dX9_rule_197 fX9_50 (by omega) hM76.2.2.1 rfl rfl ?_
                        refine v_iload_n C 1 dX9_rule_200 rfl rfl ?_
                        obtain ⟨f78, hE78, hb78⟩ := hJ75.2.1.getA (b := 78) (by omega) rfl
                        refine v_ald (v := f78 (x.toInt).toNat) C 78 dX9_rule_201 (by omega) hE78 (ti_in (rfl : Int32.toInt x = _) (by omega) (by omega)) (by rw [ti_cl (rfl : Int32.toInt x = _)]) ?_
                        refine v_top (fun x79 ex79 => ?_)
                        have hx79 : (0 : Int) ≤ x79.toInt ∧ x79.toInt ≤ 8 := by rw [ex79]; exact hb78 _
                        exact v_ret C dX9_rule_202 rfl rfl ⟨(ti_any x79), hJ75⟩
                      · refine v_bipush (v := (-2)) C dX9_rule_107 (by decide) ?_
                        exact v_ret C dX9_rule_109 rfl rfl ⟨(ti_any (-2)), hJ⟩
                    · refine b_if_ne C 96 dX9_rule_91 (by decide) (show (0 : Int32).toInt = 0 by decide) (fun c80 => absurd c80 (by decide)) (fun c80 => ?_)
                      refine v_iconst (v := (-1)) C dX9_rule_94 (by decide) ?_
                      exact v_ret C dX9_rule_95 rfl rfl ⟨(ti_any (-1)), hJ⟩
                  · refine b_if_eq C 94 dX9_rule_77 (by decide) (show (0 : Int32).toInt = 0 by decide) (fun c81 => ?_) (fun c81 => absurd c81 (by decide))
                    refine v_iconst (v := (-1)) C dX9_rule_94 (by decide) ?_
                    exact v_ret C dX9_rule_95 rfl rfl ⟨(ti_any (-1)), hJ⟩
  · refine b_if_eq C 94 dX9_rule_5 (by decide) (show (0 : Int32).toInt = 0 by decide) (fun c82 => ?_) (fun c82 => absurd c82 (by decide))
    refine v_iconst (v := (-1)) C dX9_rule_94 (by decide) ?_
    exact v_ret C dX9_rule_95 rfl rfl ⟨(ti_any (-1)), hJ⟩

set_option maxRecDepth 20000 in
theorem e_count (l : Launch) (G : Gl) (n : Nat) (ad : Nat → Nat) (E : Nat → va_E) (hn : 98 ≤ n) {im : Nat → Int32} (h68 : E 68 = ob 9 (rX9 ad) im) {ic md fl : Nat → Int32} (hW : MCal G ad E im ic md) (h88 : E 88 = aI G 6 fl) (hbl : ∀ i, 0 ≤ (fl i).toInt ∧ (fl i).toInt ≤ 10) (w : Int32)  : CtI l G yX9_count cX9_count 4 .int 3 64 n ad E [.ref (ad 68), .int w] (fun r E' => r.toInt = CNf (im 16).toInt fl (im 17).toInt (YSf md (ic 4).toInt (ic 5).toInt 100) w.toInt ∧ MR G ad E E' im ic md) := by
  refine CtI.of (by decide) (Nat.le_of_ble_eq_true rfl) (fun X A C => ?_)
  refine v_sub (lv' := [(0, .ref (ad 68)), (1, .int w)]) [0, 1] rfl ?_
  refine v_iconst (v := 0) C dX9_count_0 (by decide) ?_
  refine v_istore_n (lv' := [(0, .ref (ad 68)), (1, .int w), (2, .int 0)]) C [1, 2, 0] dX9_count_1 rfl (by decide) rfl ?_
  refine v_iconst (v := 0) C dX9_count_2 (by decide) ?_
  refine v_istore_n (lv' := [(0, .ref (ad 68)), (1, .int w), (2, .int 0), (3, .int 0)]) C [1, 2, 3, 0] dX9_count_3 rfl (by decide) rfl ?_
  refine v_iload_n C 3 dX9_count_4 rfl rfl ?_
  refine v_bipush (v := 6) C dX9_count_5 (by decide) ?_
  refine b_icmp_ge C 25 dX9_count_7 (by decide) (show (0 : Int32).toInt = 0 by decide) (show (6 : Int32).toInt = 6 by decide) (fun c1 => absurd c1 (by decide)) (fun c1 => ?_)
  refine v_iload_n C 2 dX9_count_10 rfl rfl ?_
  refine v_aload_n C 0 dX9_count_11 rfl rfl ?_
  refine v_getr C 68 dX9_count_12 fX9_85 (by omega) h68 rfl rfl ?_
  refine v_iload_n C 3 dX9_count_15 rfl rfl ?_
  have hb0 := hbl 0
  refine v_ald (v := fl 0) C 88 dX9_count_16 (by omega) h88 (ti_in (show (0 : Int32).toInt = 0 by decide) (by omega) (by omega)) (congrArg fl (by decide)) ?_
  refine v_iadd C dX9_count_17 ?_
  refine v_top (fun x2 ex2 => ?_)
  have hx2 : x2.toInt = (0 + (fl 0).toInt) := by rw [ex2]; exact ti_add (show (0 : Int32).toInt = 0 by decide) (rfl : Int32.toInt (fl 0) = _) (by omega) (by omega)
  refine v_istore_n (lv' := [(0, .ref (ad 68)), (1, .int w), (2, .int x2), (3, .int 0)]) C [1, 2, 0, 3] dX9_count_18 rfl (by decide) rfl ?_
  refine v_iinc (v := 1) (lv' := [(0, .ref (ad 68)), (1, .int w), (2, .int x2), (3, .int 1)]) C 3 [1, 2, 3, 0] dX9_count_19 rfl (by decide) (by decide) rfl ?_
  refine v_goto C 4 dX9_count_22 (by decide) ?_
  refine v_iload_n C 3 dX9_count_4 rfl rfl ?_
  refine v_bipush (v := 6) C dX9_count_5 (by decide) ?_
  refine b_icmp_ge C 25 dX9_count_7 (by decide) (show (1 : Int32).toInt = 1 by decide) (show (6 : Int32).toInt = 6 by decide) (fun c3 => absurd c3 (by decide)) (fun c3 => ?_)
  refine v_iload_n C 2 dX9_count_10 rfl rfl ?_
  refine v_aload_n C 0 dX9_count_11 rfl rfl ?_
  refine v_getr C 68 dX9_count_12 fX9_85 (by omega) h68 rfl rfl ?_
  refine v_iload_n C 3 dX9_count_15 rfl rfl ?_
  have hb1 := hbl 1
  refine v_ald (v := fl 1) C 88 dX9_count_16 (by omega) h88 (ti_in (show (1 : Int32).toInt = 1 by decide) (by omega) (by omega)) (congrArg fl (by decide)) ?_
  refine v_iadd C dX9_count_17 ?_
  refine v_top (fun x4 ex4 => ?_)
  have hx4 : x4.toInt = ((0 + (fl 0).toInt) + (fl 1).toInt) := by rw [ex4]; exact ti_add hx2 (rfl : Int32.toInt (fl 1) = _) (by omega) (by omega)
  refine v_istore_n (lv' := [(0, .ref (ad 68)), (1, .int w), (2, .int x4), (3, .int 1)]) C [1, 2, 0, 3] dX9_count_18 rfl (by decide) rfl ?_
  refine v_iinc (v := 2) (lv' := [(0, .ref (ad 68)), (1, .int w), (2, .int x4), (3, .int 2)]) C 3 [1, 2, 3, 0] dX9_count_19 rfl (by decide) (by decide) rfl ?_
  refine v_goto C 4 dX9_count_22 (by decide) ?_
  refine v_iload_n C 3 dX9_count_4 rfl rfl ?_
  refine v_bipush (v := 6) C dX9_count_5 (by decide) ?_
  refine b_icmp_ge C 25 dX9_count_7 (by decide) (show (2 : Int32).toInt = 2 by decide) (show (6 : Int32).toInt = 6 by decide) (fun c5 => absurd c5 (by decide)) (fun c5 => ?_)
  refine v_iload_n C 2 dX9_count_10 rfl rfl ?_
  refine v_aload_n C 0 dX9_count_11 rfl rfl ?_
  refine v_getr C 68 dX9_count_12 fX9_85 (by omega) h68 rfl rfl ?_
  refine v_iload_n C 3 dX9_count_15 rfl rfl ?_
  have hb2 := hbl 2
  refine v_ald (v := fl 2) C 88 dX9_count_16 (by omega) h88 (ti_in (show (2 : Int32).toInt = 2 by decide) (by omega) (by omega)) (congrArg fl (by decide)) ?_
  refine v_iadd C dX9_count_17 ?_
  refine v_top (fun x6 ex6 => ?_)
  have hx6 : x6.toInt = (((0 + (fl 0).toInt) + (fl 1).toInt) + (fl 2).toInt) := by rw [ex6]; exact ti_add hx4 (rfl : Int32.toInt (fl 2) = _) (by omega) (by omega)
  refine v_istore_n (lv' := [(0, .ref (ad 68)), (1, .int w), (2, .int x6), (3, .int 2)]) C [1, 2, 0, 3] dX9_count_18 rfl (by decide) rfl ?_
  refine v_iinc (v := 3) (lv' := [(0, .ref (ad 68)), (1, .int w), (2, .int x6), (3, .int 3)]) C 3 [1, 2, 3, 0] dX9_count_19 rfl (by decide) (by decide) rfl ?_
  refine v_goto C 4 dX9_count_22 (by decide) ?_
  refine v_iload_n C 3 dX9_count_4 rfl rfl ?_
  refine v_bipush (v := 6) C dX9_count_5 (by decide) ?_
  refine b_icmp_ge C 25 dX9_count_7 (by decide) (show (3 : Int32).toInt = 3 by decide) (show (6 : Int32).toInt = 6 by decide) (fun c7 => absurd c7 (by decide)) (fun c7 => ?_)
  refine v_iload_n C 2 dX9_count_10 rfl rfl ?_
  refine v_aload_n C 0 dX9_count_11 rfl rfl ?_
  refine v_getr C 68 dX9_count_12 fX9_85 (by omega) h68 rfl rfl ?_
  refine v_iload_n C 3 dX9_count_15 rfl rfl ?_
  have hb3 := hbl 3
  refine v_ald (v := fl 3) C 88 dX9_count_16 (by omega) h88 (ti_in (show (3 : Int32).toInt = 3 by decide) (by omega) (by omega)) (congrArg fl (by decide)) ?_
  refine v_iadd C dX9_count_17 ?_
  refine v_top (fun x8 ex8 => ?_)
  have hx8 : x8.toInt = ((((0 + (fl 0).toInt) + (fl 1).toInt) + (fl 2).toInt) + (fl 3).toInt) := by rw [ex8]; exact ti_add hx6 (rfl : Int32.toInt (fl 3) = _) (by omega) (by omega)
  refine v_istore_n (lv' := [(0, .ref (ad 68)), (1, .int w), (2, .int x8), (3, .int 3)]) C [1, 2, 0, 3] dX9_count_18 rfl (by decide) rfl ?_
  refine v_iinc (v := 4) (lv' := [(0, .ref (ad 68)), (1, .int w), (2, .int x8), (3, .int 4)]) C 3 [1, 2, 3, 0] dX9_count_19 rfl (by decide) (by decide) rfl ?_
  refine v_goto C 4 dX9_count_22 (by decide) ?_
  refine v_iload_n C 3 dX9_count_4 rfl rfl ?_
  refine v_bipush (v := 6) C dX9_count_5 (by decide) ?_
  refine b_icmp_ge C 25 dX9_count_7 (by decide) (show (4 : Int32).toInt = 4 by decide) (show (6 : Int32).toInt = 6 by decide) (fun c9 => absurd c9 (by decide)) (fun c9 => ?_)
  refine v_iload_n C 2 dX9_count_10 rfl rfl ?_
  refine v_aload_n C 0 dX9_count_11 rfl rfl ?_
  refine v_getr C 68 dX9_count_12 fX9_85 (by omega) h68 rfl rfl ?_
  refine v_iload_n C 3 dX9_count_15 rfl rfl ?_
  have hb4 := hbl 4
  refine v_ald (v := fl 4) C 88 dX9_count_16 (by omega) h88 (ti_in (show (4 : Int32).toInt = 4 by decide) (by omega) (by omega)) (congrArg fl (by decide)) ?_
  refine v_iadd C dX9_count_17 ?_
  refine v_top (fun x10 ex10 => ?_)
  have hx10 : x10.toInt = (((((0 + (fl 0).toInt) + (fl 1).toInt) + (fl 2).toInt) + (fl 3).toInt) + (fl 4).toInt) := by rw [ex10]; exact ti_add hx8 (rfl : Int32.toInt (fl 4) = _) (by omega) (by omega)
  refine v_istore_n (lv' := [(0, .ref (ad 68)), (1, .int w), (2, .int x10), (3, .int 4)]) C [1, 2, 0, 3] dX9_count_18 rfl (by decide) rfl ?_
  refine v_iinc (v := 5) (lv' := [(0, .ref (ad 68)), (1, .int w), (2, .int x10), (3, .int 5)]) C 3 [1, 2, 3, 0] dX9_count_19 rfl (by decide) (by decide) rfl ?_
  refine v_goto C 4 dX9_count_22 (by decide) ?_
  refine v_iload_n C 3 dX9_count_4 rfl rfl ?_
  refine v_bipush (v := 6) C dX9_count_5 (by decide) ?_
  refine b_icmp_ge C 25 dX9_count_7 (by decide) (show (5 : Int32).toInt = 5 by decide) (show (6 : Int32).toInt = 6 by decide) (fun c11 => absurd c11 (by decide)) (fun c11 => ?_)
  refine v_iload_n C 2 dX9_count_10 rfl rfl ?_
  refine v_aload_n C 0 dX9_count_11 rfl rfl ?_
  refine v_getr C 68 dX9_count_12 fX9_85 (by omega) h68 rfl rfl ?_
  refine v_iload_n C 3 dX9_count_15 rfl rfl ?_
  have hb5 := hbl 5
  refine v_ald (v := fl 5) C 88 dX9_count_16 (by omega) h88 (ti_in (show (5 : Int32).toInt = 5 by decide) (by omega) (by omega)) (congrArg fl (by decide)) ?_
  refine v_iadd C dX9_count_17 ?_
  refine v_top (fun x12 ex12 => ?_)
  have hx12 : x12.toInt = ((((((0 + (fl 0).toInt) + (fl 1).toInt) + (fl 2).toInt) + (fl 3).toInt) + (fl 4).toInt) + (fl 5).toInt) := by rw [ex12]; exact ti_add hx10 (rfl : Int32.toInt (fl 5) = _) (by omega) (by omega)
  refine v_istore_n (lv' := [(0, .ref (ad 68)), (1, .int w), (2, .int x12), (3, .int 5)]) C [1, 2, 0, 3] dX9_count_18 rfl (by decide) rfl ?_
  refine v_iinc (v := 6) (lv' := [(0, .ref (ad 68)), (1, .int w), (2, .int x12), (3, .int 6)]) C 3 [1, 2, 3, 0] dX9_count_19 rfl (by decide) (by decide) rfl ?_
  refine v_goto C 4 dX9_count_22 (by decide) ?_
  refine v_iload_n C 3 dX9_count_4 rfl rfl ?_
  refine v_bipush (v := 6) C dX9_count_5 (by decide) ?_
  refine b_icmp_ge C 25 dX9_count_7 (by decide) (show (6 : Int32).toInt = 6 by decide) (show (6 : Int32).toInt = 6 by decide) (fun c13 => ?_) (fun c13 => absurd c13 (by decide))
  refine v_iload_n C 1 dX9_count_25 rfl rfl ?_
  refine b_if_ne C 36 dX9_count_26 (by decide) (rfl : Int32.toInt w = _) (fun c14 => ?_) (fun c14 => ?_)
  · refine v_iload_n C 1 dX9_count_36 rfl rfl ?_
    refine v_iconst (v := 1) C dX9_count_37 (by decide) ?_
    refine b_icmp_ne C 45 dX9_count_38 (by decide) (rfl : Int32.toInt w = _) (show (1 : Int32).toInt = 1 by decide) (fun c15 => ?_) (fun c15 => ?_)
    · refine v_iload_n C 1 dX9_count_45 rfl rfl ?_
      refine v_iconst (v := 2) C dX9_count_46 (by decide) ?_
      refine b_icmp_ne C 57 dX9_count_47 (by decide) (rfl : Int32.toInt w = _) (show (2 : Int32).toInt = 2 by decide) (fun c16 => ?_) (fun c16 => ?_)
      · refine v_iload_n C 1 dX9_count_57 rfl rfl ?_
        refine v_iconst (v := 3) C dX9_count_58 (by decide) ?_
        refine b_icmp_ne C 69 dX9_count_59 (by decide) (rfl : Int32.toInt w = _) (show (3 : Int32).toInt = 3 by decide) (fun c17 => ?_) (fun c17 => ?_)
        · refine v_iconst (v := (-1)) C dX9_count_69 (by decide) ?_
          exact v_ret C dX9_count_70 rfl rfl ⟨(show _ by rw [show ((-1) : Int32).toInt = (-1) by decide]; unfold CNf; (repeat first | rw [if_pos (by omega)] | rw [if_neg (by omega)]); try (unfold LNS; omega)), MR.refl hW⟩
        · refine v_aload_n C 0 dX9_count_62 rfl rfl ?_
          refine v_cVi C dX9_count_63 lX9_127 mX9_allDays 68 (by omega) h68 (by decide) rfl (d_allDays l G n ad _ hn hW) ⟨by decide, by decide⟩ rfl (Nat.le_of_ble_eq_true rfl) ⟨Nat.zero_le _, Nat.zero_le _⟩ (fun r18 E19 hq20 => ?_)
          obtain ⟨hq20, hmr⟩ := hq20
          refine v_goto C 70 dX9_count_66 (by decide) ?_
          exact v_ret C dX9_count_70 rfl rfl ⟨(show _ by rw [hq20]; unfold CNf; (repeat first | rw [if_pos (by omega)] | rw [if_neg (by omega)]); try (unfold LNS; omega)), hmr⟩
      · refine v_aload_n C 0 dX9_count_50 rfl rfl ?_
        refine v_geti (v := im 17) C 68 dX9_count_51 fX9_165 (by omega) h68 rfl rfl ?_
        refine v_goto C 70 dX9_count_54 (by decide) ?_
        exact v_ret C dX9_count_70 rfl rfl ⟨(show _ by unfold CNf; (repeat first | rw [if_pos (by omega)] | rw [if_neg (by omega)]); try (unfold LNS; omega)), MR.refl hW⟩
    · refine v_iload_n C 2 dX9_count_41 rfl rfl ?_
      refine v_goto C 70 dX9_count_42 (by decide) ?_
      exact v_ret C dX9_count_70 rfl rfl ⟨(show _ by rw [hx12]; unfold CNf; (repeat first | rw [if_pos (by omega)] | rw [if_neg (by omega)]); try (unfold LNS; omega)), MR.refl hW⟩
  · refine v_aload_n C 0 dX9_count_29 rfl rfl ?_
    refine v_geti (v := im 16) C 68 dX9_count_30 fX9_135 (by omega) h68 rfl rfl ?_
    refine v_goto C 70 dX9_count_33 (by decide) ?_
    exact v_ret C dX9_count_70 rfl rfl ⟨(show _ by unfold CNf; (repeat first | rw [if_pos (by omega)] | rw [if_neg (by omega)]); try (unfold LNS; omega)), MR.refl hW⟩

