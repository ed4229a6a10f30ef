set_option maxRecDepth 20000 in
theorem y_rule (l : Launch) (G : Gl) (n : Nat) (ad : Nat → Nat) (E : Nat → va_E) (hn : 98 ≤ n) {im ic md rf rto ron rat rbe rtd rm fz : Nat → Int32} (h68 : E 68 = ob 9 (rX9 ad) im) (h72 : E 72 = aI G 40 rf) (h73 : E 73 = aI G 40 rto) (h74 : E 74 = aI G 40 ron) (h75 : E 75 = aI G 40 rat) (h76 : E 76 = aI G 40 rbe) (h77 : E 77 = aI G 40 rtd) (h78 : E 78 = aI G 5 rm) (h79 : E 79 = aZ G 5 fz) {k : Nat} (hk : (im 16).toInt = (k : Int)) (hk5 : k ≤ 5) (hb8 : ∀ q, q < 5 → 0 ≤ (rm q).toInt ∧ (rm q).toInt ≤ 8) {bd : Nat → Int × Int} {E0 : Nat → va_E} (hJ : JM G ad n ic md bd PR E0 E) (hw4 : 2 ≤ (im 4).toInt ∧ (im 4).toInt ≤ 10) (z : Int32) (y : Int32) (o : Int32) (a : Int32) (v : Int32) : CtI l G yX9_rule cX9_rule 7 .int 1 22 (n) ad E [.ref (ad 68), .int z, .int y, .int o, .int a, .int v] (fun r E' => (¬ okRU k (im 4).toInt z.toInt y.toInt o.toInt a.toInt v.toInt ∧ r.toInt = -1 ∧ E = E') ∨ (okRU k (im 4).toInt z.toInt y.toInt o.toInt a.toInt v.toInt ∧ (∃ zz : Nat, z.toInt = (zz : Int) ∧ (rm zz).toInt = 8) ∧ r.toInt = -2 ∧ E = E') ∨ (okRU k (im 4).toInt z.toInt y.toInt o.toInt a.toInt v.toInt ∧ ∃ (zz R : Nat) (f t n1 : Int32), z.toInt = (zz : Int) ∧ (rm zz).toInt = (R : Int) ∧ R < 8 ∧ r.toInt = (R : Int) + 1 ∧ f.toInt = y.toInt / 100 ∧ t.toInt = y.toInt % 100 ∧ n1.toInt = (R : Int) + 1 ∧ E' 72 = aI G 40 (upd rf (8 * zz + R) f) ∧ E' 73 = aI G 40 (upd rto (8 * zz + R) t) ∧ E' 74 = aI G 40 (upd ron (8 * zz + R) o) ∧ E' 75 = aI G 40 (upd rat (8 * zz + R) a) ∧ E' 76 = aI G 40 (upd rbe (8 * zz + R) v) ∧ E' 77 = aI G 40 (upd rtd (8 * zz + R) (im 17)) ∧ E' 78 = aI G 5 (upd rm zz n1) ∧ (∃ fz2 : Nat → Int32, E' 79 = aZ G 5 fz2 ∧ (∀ q, q < 5 → fz2 q = 0) ∧ ∀ q, 5 ≤ q → fz2 q = fz q) ∧ ∀ j, (j < 72 ∨ 79 < j) → E' j = E j)) := by
  refine CtI.of (by decide) (Nat.le_of_ble_eq_true rfl) (fun X A C => ?_)
  refine v_sub (lv' := [(0, .ref (ad 68)), (1, .int z), (2, .int y), (3, .int o), (4, .int a), (5, .int v)]) [0, 1, 2, 3, 4, 5] rfl ?_
  refine v_aload_n C 0 dX9_rule_0 rfl rfl ?_
  refine v_iload_n C 1 dX9_rule_1 rfl rfl ?_
  refine v_cVp C dX9_rule_2 lX9_162 mX9_isZone 68 (by omega) h68 (by decide) rfl (e_isZone l G n ad _ hn h68 z) ⟨by decide, by decide⟩ rfl (Nat.le_of_ble_eq_true rfl) ⟨Nat.zero_le _, Nat.zero_le _⟩ (fun r1 hp2 => ?_)
  rw [hk] at hp2
  rcases hp2 with ⟨rfl, hp2⟩ | ⟨rfl, hp2⟩
  · obtain ⟨zz, hz⟩ : ∃ q : Nat, z.toInt = (q : Int) := ⟨z.toInt.toNat, by omega⟩
    have hb8z := hb8 zz (by omega)
    obtain ⟨R, hR⟩ : ∃ q : Nat, (rm zz).toInt = (q : Int) := ⟨(rm zz).toInt.toNat, by omega⟩
    refine b_if_eq C 94 dX9_rule_5 (by decide) (show (1 : Int32).toInt = 1 by decide) (fun c3 => absurd c3 (by decide)) (fun c3 => ?_)
    refine v_iload_n C 2 dX9_rule_8 rfl rfl ?_
    refine b_if_lt C 94 dX9_rule_9 (by decide) (rfl : Int32.toInt y = _) (fun c4 => ?_) (fun c4 => ?_)
    · refine v_iconst (v := (-1)) C dX9_rule_94 (by decide) ?_
      exact v_ret C dX9_rule_95 rfl rfl (Or.inl ⟨by intro q; unfold okRU at q; omega, by decide, rfl⟩)
    · refine v_iload_n C 2 dX9_rule_12 rfl rfl ?_
      refine v_bipush (v := 100) C dX9_rule_13 (by decide) ?_
      refine v_idiv C dX9_rule_15 (by decide) ?_
      refine v_top (fun x5 ex5 => ?_)
      have hx5 : x5.toInt = (y.toInt / 100) := by rw [ex5]; exact ti_div (rfl : Int32.toInt y = _) (show (100 : Int32).toInt = 100 by decide) (by omega) (by omega)
      refine v_bipush (v := 100) C dX9_rule_16 (by decide) ?_
      refine b_icmp_ge C 94 dX9_rule_18 (by decide) hx5 (show (100 : Int32).toInt = 100 by decide) (fun c6 => ?_) (fun c6 => ?_)
      · refine v_iconst (v := (-1)) C dX9_rule_94 (by decide) ?_
        exact v_ret C dX9_rule_95 rfl rfl (Or.inl ⟨by intro q; unfold okRU at q; omega, by decide, rfl⟩)
      · refine v_iload_n C 2 dX9_rule_21 rfl rfl ?_
        refine v_bipush (v := 100) C dX9_rule_22 (by decide) ?_
        refine v_idiv C dX9_rule_24 (by decide) ?_
        refine v_top (fun x7 ex7 => ?_)
        have hx7 : x7.toInt = (y.toInt / 100) := by rw [ex7]; exact ti_div (rfl : Int32.toInt y = _) (show (100 : Int32).toInt = 100 by decide) (by omega) (by omega)
        refine v_iload_n C 2 dX9_rule_25 rfl rfl ?_
        refine v_bipush (v := 100) C dX9_rule_26 (by decide) ?_
        refine v_irem C dX9_rule_28 (by decide) ?_
        refine v_top (fun x8 ex8 => ?_)
        have hx8 : x8.toInt = (y.toInt % 100) := by rw [ex8]; exact ti_rem (rfl : Int32.toInt y = _) (show (100 : Int32).toInt = 100 by decide) (by omega) (by omega)
        refine b_icmp_gt C 94 dX9_rule_29 (by decide) hx7 hx8 (fun c9 => ?_) (fun c9 => ?_)
        · refine v_iconst (v := (-1)) C dX9_rule_94 (by decide) ?_
          exact v_ret C dX9_rule_95 rfl rfl (Or.inl ⟨by intro q; unfold okRU at q; omega, by decide, rfl⟩)
        · refine v_iload_n C 3 dX9_rule_32 rfl rfl ?_
          refine b_if_lt C 94 dX9_rule_33 (by decide) (rfl : Int32.toInt o = _) (fun c10 => ?_) (fun c10 => ?_)
          · refine v_iconst (v := (-1)) C dX9_rule_94 (by decide) ?_
            exact v_ret C dX9_rule_95 rfl rfl (Or.inl ⟨by intro q; unfold okRU at q; omega, by decide, rfl⟩)
          · refine v_iload_n C 3 dX9_rule_36 rfl rfl ?_
            refine v_sipush (v := 1000) C dX9_rule_37 (by decide) ?_
            refine v_idiv C dX9_rule_40 (by decide) ?_
            refine v_top (fun x11 ex11 => ?_)
            have hx11 : x11.toInt = (o.toInt / 1000) := by rw [ex11]; exact ti_div (rfl : Int32.toInt o = _) (show (1000 : Int32).toInt = 1000 by decide) (by omega) (by omega)
            refine v_bipush (v := 12) C dX9_rule_41 (by decide) ?_
            refine b_icmp_ge C 94 dX9_rule_43 (by decide) hx11 (show (12 : Int32).toInt = 12 by decide) (fun c12 => ?_) (fun c12 => ?_)
            · refine v_iconst (v := (-1)) C dX9_rule_94 (by decide) ?_
              exact v_ret C dX9_rule_95 rfl rfl (Or.inl ⟨by intro q; unfold okRU at q; omega, by decide, rfl⟩)
            · refine v_iload_n C 3 dX9_rule_46 rfl rfl ?_
              refine v_bipush (v := 10) C dX9_rule_47 (by decide) ?_
              refine v_idiv C dX9_rule_49 (by decide) ?_
              refine v_top (fun x13 ex13 => ?_)
              have hx13 : x13.toInt = (o.toInt / 10) := by rw [ex13]; exact ti_div (rfl : Int32.toInt o = _) (show (10 : Int32).toInt = 10 by decide) (by omega) (by omega)
              refine v_bipush (v := 100) C dX9_rule_50 (by decide) ?_
              refine v_irem C dX9_rule_52 (by decide) ?_
              refine v_top (fun x14 ex14 => ?_)
              have hx14 : x14.toInt = ((o.toInt / 10) % 100) := by rw [ex14]; exact ti_rem hx13 (show (100 : Int32).toInt = 100 by decide) (by omega) (by omega)
              refine v_aload_n C 0 dX9_rule_53 rfl rfl ?_
              refine v_geti (v := im 4) C 68 dX9_rule_54 fX9_23 (by omega) h68 rfl rfl ?_
              refine b_icmp_ge C 94 dX9_rule_57 (by decide) hx14 (rfl : Int32.toInt (im 4) = _) (fun c15 => ?_) (fun c15 => ?_)
              · refine v_iconst (v := (-1)) C dX9_rule_94 (by decide) ?_
                exact v_ret C dX9_rule_95 rfl rfl (Or.inl ⟨by intro q; unfold okRU at q; omega, by decide, rfl⟩)
              · refine v_iload_n C 3 dX9_rule_60 rfl rfl ?_
                refine v_bipush (v := 10) C dX9_rule_61 (by decide) ?_
                refine v_irem C dX9_rule_63 (by decide) ?_
                refine v_top (fun x16 ex16 => ?_)
                have hx16 : x16.toInt = (o.toInt % 10) := by rw [ex16]; exact ti_rem (rfl : Int32.toInt o = _) (show (10 : Int32).toInt = 10 by decide) (by omega) (by omega)
                refine v_iconst (v := 4) C dX9_rule_64 (by decide) ?_
                refine b_icmp_gt C 94 dX9_rule_65 (by decide) hx16 (show (4 : Int32).toInt = 4 by decide) (fun c17 => ?_) (fun c17 => ?_)
                · refine v_iconst (v := (-1)) C dX9_rule_94 (by decide) ?_
                  exact v_ret C dX9_rule_95 rfl rfl (Or.inl ⟨by intro q; unfold okRU at q; omega, by decide, rfl⟩)
                · refine v_iload C 4 dX9_rule_68 rfl ?_
                  refine v_iconst (v := 0) C dX9_rule_70 (by decide) ?_
                  refine v_sipush (v := 1439) C dX9_rule_71 (by decide) ?_
                  refine v_cSp C dX9_rule_74 lX9_131 mX9_within (t_X9_within l G ad hJ a 0 1439) ⟨by decide, by decide⟩ rfl (Nat.le_of_ble_eq_true rfl) ⟨Nat.zero_le _, Nat.zero_le _⟩ (fun r18 hp19 => ?_)
                  rw [(show (0 : Int32).toInt = 0 by decide), (show (1439 : Int32).toInt = 1439 by decide)] at hp19
                  rcases hp19 with ⟨rfl, hp19⟩ | ⟨rfl, hp19⟩
                  · refine b_if_eq C 94 dX9_rule_77 (by decide) (show (1 : Int32).toInt = 1 by decide) (fun c20 => absurd c20 (by decide)) (fun c20 => ?_)
                    refine v_iload C 5 dX9_rule_80 rfl ?_
                    refine v_sipush (v := (-720)) C dX9_rule_82 (by decide) ?_
                    refine v_sipush (v := 720) C dX9_rule_85 (by decide) ?_
                    refine v_cSp C dX9_rule_88 lX9_131 mX9_within (t_X9_within l G ad hJ v (-720) 720) ⟨by decide, by decide⟩ rfl (Nat.le_of_ble_eq_true rfl) ⟨Nat.zero_le _, Nat.zero_le _⟩ (fun r21 hp22 => ?_)
                    rw [(show ((-720) : Int32).toInt = (-720) by decide), (show (720 : Int32).toInt = 720 by decide)] at hp22
                    rcases hp22 with ⟨rfl, hp22⟩ | ⟨rfl, hp22⟩
                    · refine b_if_ne C 96 dX9_rule_91 (by decide) (show (1 : Int32).toInt = 1 by decide) (fun c23 => ?_) (fun c23 => absurd c23 (by decide))
                      refine v_aload_n C 0 dX9_rule_96 rfl rfl ?_
                      refine v_getr C 68 dX9_rule_97 fX9_50 (by omega) h68 rfl rfl ?_
                      refine v_iload_n C 1 dX9_rule_100 rfl rfl ?_
                      refine v_ald (v := rm zz) C 78 dX9_rule_101 (by omega) h78 (ti_in hz (by omega) (by omega)) (by rw [ti_cl hz, show Int.toNat (zz : Int) = zz by omega]) ?_
                      refine v_bipush (v := 8) C dX9_rule_102 (by decide) ?_
                      refine b_icmp_ne C 110 dX9_rule_104 (by decide) hR (show (8 : Int32).toInt = 8 by decide) (fun c24 => ?_) (fun c24 => ?_)
                      · refine v_bipush (v := 8) C dX9_rule_110 (by decide) ?_
                        refine v_iload_n C 1 dX9_rule_112 rfl rfl ?_
                        refine v_imul C dX9_rule_113 ?_
                        refine v_top (fun x25 ex25 => ?_)
                        have hx25 : x25.toInt = (8 * (zz : Int)) := by rw [ex25]; exact ti_mul (show (8 : Int32).toInt = 8 by decide) hz (by omega) (by omega)
                        refine v_aload_n C 0 dX9_rule_114 rfl rfl ?_
                        refine v_getr C 68 dX9_rule_115 fX9_50 (by omega) h68 rfl rfl ?_
                        refine v_iload_n C 1 dX9_rule_118 rfl rfl ?_
                        refine v_ald (v := rm zz) C 78 dX9_rule_119 (by omega) h78 (ti_in hz (by omega) (by omega)) (by rw [ti_cl hz, show Int.toNat (zz : Int) = zz by omega]) ?_
                        refine v_iadd C dX9_rule_120 ?_
                        refine v_top (fun x26 ex26 => ?_)
                        have hx26 : x26.toInt = ((8 * (zz : Int)) + (R : Int)) := by rw [ex26]; exact ti_add hx25 hR (by omega) (by omega)
                        refine v_istore (lv' := [(0, .ref (ad 68)), (1, .int z), (2, .int y), (3, .int o), (4, .int a), (5, .int v), (6, .int x26)]) C [1, 2, 3, 4, 5, 6, 0] dX9_rule_121 (by decide) rfl ?_
                        refine v_aload_n C 0 dX9_rule_123 rfl rfl ?_
                        refine v_getr C 68 dX9_rule_124 fX9_32 (by omega) h68 rfl rfl ?_
                        refine v_iload C 6 dX9_rule_127 rfl ?_
                        refine v_iload_n C 2 dX9_rule_129 rfl rfl ?_
                        refine v_bipush (v := 100) C dX9_rule_130 (by decide) ?_
                        refine v_idiv C dX9_rule_132 (by decide) ?_
                        refine v_top (fun x27 ex27 => ?_)
                        have hx27 : x27.toInt = (y.toInt / 100) := by rw [ex27]; exact ti_div (rfl : Int32.toInt y = _) (show (100 : Int32).toInt = 100 by decide) (by omega) (by omega)
                        refine v_ast C 72 dX9_rule_133 (by omega) h72 (ti_in hx26 (by omega) (by omega)) (fun E28 hE28_72 oE28 => ?_)
                        rw [ti_cl hx26, show Int.toNat ((8 * (zz : Int)) + (R : Int)) = 8 * zz + R by omega] at hE28_72
                        have hE28_68 := (oE28 68 (by decide)).trans h68
                        have hE28_73 := (oE28 73 (by decide)).trans h73
                        have hE28_74 := (oE28 74 (by decide)).trans h74
                        have hE28_75 := (oE28 75 (by decide)).trans h75
                        have hE28_76 := (oE28 76 (by decide)).trans h76
                        have hE28_77 := (oE28 77 (by decide)).trans h77
                        have hE28_78 := (oE28 78 (by decide)).trans h78
                        have hE28_79 := (oE28 79 (by decide)).trans h79
                        refine v_aload_n C 0 dX9_rule_134 rfl rfl ?_
                        refine v_getr C 68 dX9_rule_135 fX9_35 (by omega) hE28_68 rfl rfl ?_
                        refine v_iload C 6 dX9_rule_138 rfl ?_
                        refine v_iload_n C 2 dX9_rule_140 rfl rfl ?_
                        refine v_bipush (v := 100) C dX9_rule_141 (by decide) ?_
                        refine v_irem C dX9_rule_143 (by decide) ?_
                        refine v_top (fun x29 ex29 => ?_)
                        have hx29 : x29.toInt = (y.toInt % 100) := by rw [ex29]; exact ti_rem (rfl : Int32.toInt y = _) (show (100 : Int32).toInt = 100 by decide) (by omega) (by omega)
                        refine v_ast C 73 dX9_rule_144 (by omega) hE28_73 (ti_in hx26 (by omega) (by omega)) (fun E30 hE30_73 oE30 => ?_)
                        rw [ti_cl hx26, show Int.toNat ((8 * (zz : Int)) + (R : Int)) = 8 * zz + R by omega] at hE30_73
                        have hE30_68 := (oE30 68 (by decide)).trans hE28_68
                        have hE30_72 := (oE30 72 (by decide)).trans hE28_72
                        have hE30_74 := (oE30 74 (by decide)).trans hE28_74
                        have hE30_75 := (oE30 75 (by decide)).trans hE28_75
                        have hE30_76 := (oE30 76 (by decide)).trans hE28_76
                        have hE30_77 := (oE30 77 (by decide)).trans hE28_77
                        have hE30_78 := (oE30 78 (by decide)).trans hE28_78
                        have hE30_79 := (oE30 79 (by decide)).trans hE28_79
                        refine v_aload_n C 0 dX9_rule_145 rfl rfl ?_
                        refine v_getr C 68 dX9_rule_146 fX9_38 (by omega) hE30_68 rfl rfl ?_
                        refine v_iload C 6 dX9_rule_149 rfl ?_
                        refine v_iload_n C 3 dX9_rule_151 rfl rfl ?_
                        refine v_ast C 74 dX9_rule_152 (by omega) hE30_74 (ti_in hx26 (by omega) (by omega)) (fun E31 hE31_74 oE31 => ?_)
                        rw [ti_cl hx26, show Int.toNat ((8 * (zz : Int)) + (R : Int)) = 8 * zz + R by omega] at hE31_74
                        have hE31_68 := (oE31 68 (by decide)).trans hE30_68
                        have hE31_72 := (oE31 72 (by decide)).trans hE30_72
                        have hE31_73 := (oE31 73 (by decide)).trans hE30_73
                        have hE31_75 := (oE31 75 (by decide)).trans hE30_75
                        have hE31_76 := (oE31 76 (by decide)).trans hE30_76
                        have hE31_77 := (oE31 77 (by decide)).trans hE30_77
                        have hE31_78 := (oE31 78 (by decide)).trans hE30_78
                        have hE31_79 := (oE31 79 (by decide)).trans hE30_79
                        refine v_aload_n C 0 dX9_rule_153 rfl rfl ?_
                        refine v_getr C 68 dX9_rule_154 fX9_41 (by omega) hE31_68 rfl rfl ?_
                        refine v_iload C 6 dX9_rule_157 rfl ?_
                        refine v_iload C 4 dX9_rule_159 rfl ?_
                        refine v_ast C 75 dX9_rule_161 (by omega) hE31_75 (ti_in hx26 (by omega) (by omega)) (fun E32 hE32_75 oE32 => ?_)
                        rw [ti_cl hx26, show Int.toNat ((8 * (zz : Int)) + (R : Int)) = 8 * zz + R by omega] at hE32_75
                        have hE32_68 := (oE32 68 (by decide)).trans hE31_68
                        have hE32_72 := (oE32 72 (by decide)).trans hE31_72
                        have hE32_73 := (oE32 73 (by decide)).trans hE31_73
                        have hE32_74 := (oE32 74 (by decide)).trans hE31_74
                        have hE32_76 := (oE32 76 (by decide)).trans hE31_76
                        have hE32_77 := (oE32 77 (by decide)).trans hE31_77
                        have hE32_78 := (oE32 78 (by decide)).trans hE31_78
                        have hE32_79 := (oE32 79 (by decide)).trans hE31_79
                        refine v_aload_n C 0 dX9_rule_162 rfl rfl ?_
                        refine v_getr C 68 dX9_rule_163 fX9_44 (by omega) hE32_68 rfl rfl ?_
                        refine v_iload C 6 dX9_rule_166 rfl ?_
                        refine v_iload C 5 dX9_rule_168 rfl ?_
                        refine v_ast C 76 dX9_rule_170 (by omega) hE32_76 (ti_in hx26 (by omega) (by omega)) (fun E33 hE33_76 oE33 => ?_)
                        rw [ti_cl hx26, show Int.toNat ((8 * (zz : Int)) + (R : Int)) = 8 * zz + R by omega] at hE33_76
                        have hE33_68 := (oE33 68 (by decide)).trans hE32_68
                        have hE33_72 := (oE33 72 (by decide)).trans hE32_72
                        have hE33_73 := (oE33 73 (by decide)).trans hE32_73
                        have hE33_74 := (oE33 74 (by decide)).trans hE32_74
                        have hE33_75 := (oE33 75 (by decide)).trans hE32_75
                        have hE33_77 := (oE33 77 (by decide)).trans hE32_77
                        have hE33_78 := (oE33 78 (by decide)).trans hE32_78
                        have hE33_79 := (oE33 79 (by decide)).trans hE32_79
                        refine v_aload_n C 0 dX9_rule_171 rfl rfl ?_
                        refine v_getr C 68 dX9_rule_172 fX9_47 (by omega) hE33_68 rfl rfl ?_
                        refine v_iload C 6 dX9_rule_175 rfl ?_
                        refine v_aload_n C 0 dX9_rule_177 rfl rfl ?_
                        refine v_geti (v := im 17) C 68 dX9_rule_178 fX9_165 (by omega) hE33_68 rfl rfl ?_
                        refine v_ast C 77 dX9_rule_181 (by omega) hE33_77 (ti_in hx26 (by omega) (by omega)) (fun E34 hE34_77 oE34 => ?_)
                        rw [ti_cl hx26, show Int.toNat ((8 * (zz : Int)) + (R : Int)) = 8 * zz + R by omega] at hE34_77
                        have hE34_68 := (oE34 68 (by decide)).trans hE33_68
                        have hE34_72 := (oE34 72 (by decide)).trans hE33_72
                        have hE34_73 := (oE34 73 (by decide)).trans hE33_73
                        have hE34_74 := (oE34 74 (by decide)).trans hE33_74
                        have hE34_75 := (oE34 75 (by decide)).trans hE33_75
                        have hE34_76 := (oE34 76 (by decide)).trans hE33_76
                        have hE34_78 := (oE34 78 (by decide)).trans hE33_78
                        have hE34_79 := (oE34 79 (by decide)).trans hE33_79
                        refine v_aload_n C 0 dX9_rule_182 rfl rfl ?_
                        refine v_getr C 68 dX9_rule_183 fX9_50 (by omega) hE34_68 rfl rfl ?_
                        refine v_iload_n C 1 dX9_rule_186 rfl rfl ?_
                        refine v_dup2_11 C dX9_rule_187 rfl rfl ?_
                        refine v_ald (v := rm zz) C 78 dX9_rule_188 (by omega) hE34_78 (ti_in hz (by omega) (by omega)) (by rw [ti_cl hz, show Int.toNat (zz : Int) = zz by omega]) ?_
                        refine v_iconst (v := 1) C dX9_rule_189 (by decide) ?_
                        refine v_iadd C dX9_rule_190 ?_
                        refine v_top (fun x35 ex35 => ?_)
                        have hx35 : x35.toInt = ((R : Int) + 1) := by rw [ex35]; exact ti_add hR (show (1 : Int32).toInt = 1 by decide) (by omega) (by omega)
                        refine v_ast C 78 dX9_rule_191 (by omega) hE34_78 (ti_in hz (by omega) (by omega)) (fun E36 hE36_78 oE36 => ?_)
                        rw [ti_cl hz, show Int.toNat (zz : Int) = zz by omega] at hE36_78
                        have hE36_68 := (oE36 68 (by decide)).trans hE34_68
                        have hE36_72 := (oE36 72 (by decide)).trans hE34_72
                        have hE36_73 := (oE36 73 (by decide)).trans hE34_73
                        have hE36_74 := (oE36 74 (by decide)).trans hE34_74
                        have hE36_75 := (oE36 75 (by decide)).trans hE34_75
                        have hE36_76 := (oE36 76 (by decide)).trans hE34_76
                        have hE36_77 := (oE36 77 (by decide)).trans hE34_77
                        have hE36_79 := (oE36 79 (by decide)).trans hE34_79
                        refine v_aload_n C 0 dX9_rule_192 rfl rfl ?_
                        refine v_cVv C dX9_rule_193 lX9_159 mX9_forget 68 (by omega) hE36_68 (by decide) rfl (e_forget l G n ad _ hn hE36_68 hE36_79) ⟨by decide, by decide⟩ rfl (Nat.le_of_ble_eq_true rfl) ⟨Nat.zero_le _, Nat.zero_le _⟩ (fun E37 hq38 => ?_)
                        obtain ⟨fz2, hz2, hz3, hz4, hOz⟩ := hq38
                        have hE37_68 := (hOz 68 (by decide)).trans hE36_68
                        have hE37_72 := (hOz 72 (by decide)).trans hE36_72
                        have hE37_73 := (hOz 73 (by decide)).trans hE36_73
                        have hE37_74 := (hOz 74 (by decide)).trans hE36_74
                        have hE37_75 := (hOz 75 (by decide)).trans hE36_75
                        have hE37_76 := (hOz 76 (by decide)).trans hE36_76
                        have hE37_77 := (hOz 77 (by decide)).trans hE36_77
                        have hE37_78 := (hOz 78 (by decide)).trans hE36_78
                        refine v_aload_n C 0 dX9_rule_196 rfl rfl ?_
                        refine v_getr C 68 dX9_rule_197 fX9_50 (by omega) hE37_68 rfl rfl ?_
                        refine v_iload_n C 1 dX9_rule_200 rfl rfl ?_
                        refine v_ald (v := (upd rm zz x35) zz) C 78 dX9_rule_201 (by omega) hE37_78 (ti_in hz (by omega) (by omega)) (by rw [ti_cl hz, show Int.toNat (zz : Int) = zz by omega]) ?_
                        exact v_ret C dX9_rule_202 rfl rfl (Or.inr (Or.inr ⟨by unfold okRU; omega, zz, R, _, _, _, hz, hR, by omega, by rw [upd_same]; exact hx35, hx27, hx29, hx35, hE37_72, hE37_73, hE37_74, hE37_75, hE37_76, hE37_77, hE37_78, ⟨fz2, hz2, hz3, hz4⟩, fun j hj => ((hOz j (by omega)).trans ((oE36 j (by omega)).trans ((oE34 j (by omega)).trans ((oE33 j (by omega)).trans ((oE32 j (by omega)).trans ((oE31 j (by omega)).trans ((oE30 j (by omega)).trans (oE28 j (by omega)))))))))⟩))
                      · refine v_bipush (v := (-2)) C dX9_rule_107 (by decide) ?_
                        exact v_ret C dX9_rule_109 rfl rfl (Or.inr (Or.inl ⟨by unfold okRU; omega, ⟨zz, hz, by omega⟩, by decide, rfl⟩))
                    · refine b_if_ne C 96 dX9_rule_91 (by decide) (show (0 : Int32).toInt = 0 by decide) (fun c39 => absurd c39 (by decide)) (fun c39 => ?_)
                      refine v_iconst (v := (-1)) C dX9_rule_94 (by decide) ?_
                      exact v_ret C dX9_rule_95 rfl rfl (Or.inl ⟨by intro q; unfold okRU at q; omega, by decide, rfl⟩)
                  · refine b_if_eq C 94 dX9_rule_77 (by decide) (show (0 : Int32).toInt = 0 by decide) (fun c40 => ?_) (fun c40 => absurd c40 (by decide))
                    refine v_iconst (v := (-1)) C dX9_rule_94 (by decide) ?_
                    exact v_ret C dX9_rule_95 rfl rfl (Or.inl ⟨by intro q; unfold okRU at q; omega, by decide, rfl⟩)
  · refine b_if_eq C 94 dX9_rule_5 (by decide) (show (0 : Int32).toInt = 0 by decide) (fun c41 => ?_) (fun c41 => absurd c41 (by decide))
    refine v_iconst (v := (-1)) C dX9_rule_94 (by decide) ?_
    exact v_ret C dX9_rule_95 rfl rfl (Or.inl ⟨by intro q; unfold okRU at q; omega, by decide, rfl⟩)

