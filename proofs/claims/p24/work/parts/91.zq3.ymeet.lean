set_option maxRecDepth 20000 in
theorem y_meetings (l : Launch) (G : Gl) (n : Nat) (ad : Nat → Nat) (E : Nat → va_E) (hn : 98 ≤ n) {im ic md : Nat → Int32} (hW : MCal G ad E im ic md) {rf rto ron rat rbe rtd rm fv : Nat → Int32} (hR : ZMr G E rf rto ron rat rbe rtd rm fv) {TT : Nat → TST} (hS : ZMs G E 5 TT) (hTT : ∀ z, z < 5 → TT z = TTz ic md rf rto ron rat rbe rtd rm fv (im 18).toInt z) (hV : ∀ z, z < 5 → RZv ic rf rto ron rat rbe rtd rm fv z) {k : Nat} (hk : (im 16).toInt = (k : Int)) (hk5 : k ≤ 5) (z : Int32) (a : Int32) (p : Int32) (q : Int32) (v : Int32) : CtI l G yX9_meetings cX9_meetings 9 .int 5 122 (n) ad E [.ref (ad 68), .int z, .int a, .int p, .int q, .int v] (fun r E' => MEp ic md k TT z.toInt a.toInt p.toInt q.toInt v.toInt r.toInt ∧ FQ G ad E E' im ic md 5 TT) := by
  refine CtI.of (by decide) (Nat.le_of_ble_eq_true rfl) (fun X A C => ?_)
  refine v_sub (lv' := [(0, .ref (ad 68)), (1, .int z), (2, .int a), (3, .int p), (4, .int q), (5, .int v)]) [0, 1, 2, 3, 4, 5] rfl ?_
  have hP := hW.2.1
  have h68 := hW.2.2.1
  have hcy := cal_y hP
  have h8T : ∀ z, z < 5 → (TT z).1 ≤ 800 := fun z hz => by rw [hTT z hz]; exact (TTz_ok hP (hV z hz)).2
  have hokT : ∀ z, z < 5 → okT 69300000 (TT z) := fun z hz => by rw [hTT z hz]; exact (TTz_ok hP (hV z hz)).1
  have e7 : (im 4).toInt = (ic 7).toInt := by rw [← hW.1]; rfl
  have hwb := (cal_b hP).2.2.2
  refine v_aload_n C 0 dX9_meetings_0 rfl rfl ?_
  refine v_iload_n C 1 dX9_meetings_1 rfl rfl ?_
  refine v_cVp C dX9_meetings_2 lX9_162 mX9_isZone 68 (by omega) h68 (by decide) rfl (e_isZone l G n ad _ hn h68 z) ⟨by decide, by decide⟩ rfl (Nat.le_of_ble_eq_true rfl) ⟨Nat.zero_le _, Nat.zero_le _⟩ (fun r1 hp2 => ?_)
  rcases hp2 with ⟨rfl, hp2⟩ | ⟨rfl, hp2⟩
  · rw [hk] at hp2
    obtain ⟨zz, hz⟩ : ∃ q : Nat, z.toInt = (q : Int) := ⟨z.toInt.toNat, by omega⟩
    have hzz : zz < k := by omega
    refine b_if_eq C 76 dX9_meetings_5 (by decide) (show (1 : Int32).toInt = 1 by decide) (fun c3 => absurd c3 (by decide)) (fun c3 => ?_)
    refine v_iload_n C 2 dX9_meetings_8 rfl rfl ?_
    refine b_if_lt C 76 dX9_meetings_9 (by decide) (rfl : Int32.toInt a = _) (fun c4 => ?_) (fun c4 => ?_)
    · refine v_iconst (v := (-1)) C dX9_meetings_76 (by decide) ?_
      exact v_ret C dX9_meetings_77 rfl rfl ⟨Or.inl ⟨by unfold okME; omega, by decide⟩, FQ.refl hW hS⟩
    · refine v_iload_n C 2 dX9_meetings_12 rfl rfl ?_
      refine v_bipush (v := 10) C dX9_meetings_13 (by decide) ?_
      refine v_idiv C dX9_meetings_15 (by decide) ?_
      refine v_top (fun x5 ex5 => ?_)
      have hx5 : x5.toInt = (a.toInt / 10) := by rw [ex5]; exact ti_div (rfl : Int32.toInt a = _) (show (10 : Int32).toInt = 10 by decide) (by omega) (by omega)
      refine v_sipush (v := 1440) C dX9_meetings_16 (by decide) ?_
      refine b_icmp_ge C 76 dX9_meetings_19 (by decide) hx5 (show (1440 : Int32).toInt = 1440 by decide) (fun c6 => ?_) (fun c6 => ?_)
      · refine v_iconst (v := (-1)) C dX9_meetings_76 (by decide) ?_
        exact v_ret C dX9_meetings_77 rfl rfl ⟨Or.inl ⟨by unfold okME; omega, by decide⟩, FQ.refl hW hS⟩
      · refine v_iload_n C 2 dX9_meetings_22 rfl rfl ?_
        refine v_bipush (v := 10) C dX9_meetings_23 (by decide) ?_
        refine v_irem C dX9_meetings_25 (by decide) ?_
        refine v_top (fun x7 ex7 => ?_)
        have hx7 : x7.toInt = (a.toInt % 10) := by rw [ex7]; exact ti_rem (rfl : Int32.toInt a = _) (show (10 : Int32).toInt = 10 by decide) (by omega) (by omega)
        refine v_aload_n C 0 dX9_meetings_26 rfl rfl ?_
        refine v_geti (v := im 4) C 68 dX9_meetings_27 fX9_23 (by omega) h68 rfl rfl ?_
        refine b_icmp_ge C 76 dX9_meetings_30 (by decide) hx7 e7 (fun c8 => ?_) (fun c8 => ?_)
        · refine v_iconst (v := (-1)) C dX9_meetings_76 (by decide) ?_
          exact v_ret C dX9_meetings_77 rfl rfl ⟨Or.inl ⟨by unfold okME; omega, by decide⟩, FQ.refl hW hS⟩
        · refine v_aload_n C 0 dX9_meetings_33 rfl rfl ?_
          refine v_iload_n C 3 dX9_meetings_34 rfl rfl ?_
          refine v_cVi C dX9_meetings_35 lX9_141 mX9_isDay 68 (by omega) h68 (by decide) rfl (d_isDay l G n ad _ hn hW p) ⟨by decide, by decide⟩ rfl (Nat.le_of_ble_eq_true rfl) ⟨Nat.zero_le _, Nat.zero_le _⟩ (fun r9 E11 hp10 => ?_)
          obtain ⟨hp10, hp10m⟩ := hp10
          have hF12 := FQ.mr hS hp10m
          obtain ⟨im13, hi13, hW13, hS13, hO13⟩ := id hF12
          have hR13 := hR.go (fun j h1 h2 => hO13 j (by omega) (by omega) (by omega))
          have hTT13 : ∀ z, z < 5 → TT z = TTz ic md rf rto ron rat rbe rtd rm fv (im13 18).toInt z := fun z hz => by rw [hi13 18 (by decide)]; exact hTT z hz
          have hG13 := hF12
          have e6813 := hW13.2.2.1
          rcases hp10 with ⟨rfl, hp10⟩ | ⟨rfl, hp10⟩
          · refine b_if_eq C 76 dX9_meetings_38 (by decide) (show (1 : Int32).toInt = 1 by decide) (fun c14 => absurd c14 (by decide)) (fun c14 => ?_)
            refine v_aload_n C 0 dX9_meetings_41 rfl rfl ?_
            refine v_iload C 4 dX9_meetings_42 rfl ?_
            refine v_cVi C dX9_meetings_44 lX9_141 mX9_isDay 68 (by omega) e6813 (by decide) rfl (d_isDay l G n ad _ hn hW13 q) ⟨by decide, by decide⟩ rfl (Nat.le_of_ble_eq_true rfl) ⟨Nat.zero_le _, Nat.zero_le _⟩ (fun r15 E17 hp16 => ?_)
            obtain ⟨hp16, hp16m⟩ := hp16
            have hF18 := FQ.mr hS13 hp16m
            obtain ⟨im19, hi19, hW19, hS19, hO19⟩ := id hF18
            have hR19 := hR13.go (fun j h1 h2 => hO19 j (by omega) (by omega) (by omega))
            have hTT19 : ∀ z, z < 5 → TT z = TTz ic md rf rto ron rat rbe rtd rm fv (im19 18).toInt z := fun z hz => by rw [hi19 18 (by decide)]; exact hTT13 z hz
            have hG19 := FQ.trans hi13 hO13 hF18
            have hit19 : ∀ q, q ≠ 7 → im19 q = im q := fun q hq => (hi19 q hq).trans (hi13 q hq)
            have hOt19 : ∀ j, j ≠ 68 → j ≠ 70 → (j < 79 ∨ 84 < j) → E17 j = E j := fun j g1 g2 g3 => (hO19 j g1 g2 g3).trans (hO13 j g1 g2 g3)
            have e6819 := hW19.2.2.1
            rcases hp16 with ⟨rfl, hp16⟩ | ⟨rfl, hp16⟩
            · refine b_if_eq C 76 dX9_meetings_47 (by decide) (show (1 : Int32).toInt = 1 by decide) (fun c20 => absurd c20 (by decide)) (fun c20 => ?_)
              refine v_iload_n C 3 dX9_meetings_50 rfl rfl ?_
              refine v_iload C 4 dX9_meetings_51 rfl ?_
              refine b_icmp_gt C 76 dX9_meetings_53 (by decide) (rfl : Int32.toInt p = _) (rfl : Int32.toInt q = _) (fun c21 => ?_) (fun c21 => ?_)
              · refine v_iconst (v := (-1)) C dX9_meetings_76 (by decide) ?_
                exact v_ret C dX9_meetings_77 rfl rfl ⟨Or.inl ⟨by unfold okME; omega, by decide⟩, hG19⟩
              · refine v_iload C 4 dX9_meetings_56 rfl ?_
                refine v_iload_n C 3 dX9_meetings_58 rfl rfl ?_
                refine v_isub C dX9_meetings_59 ?_
                refine v_top (fun x22 ex22 => ?_)
                have hx22 : x22.toInt = (q.toInt - p.toInt) := by rw [ex22]; exact ti_sub (rfl : Int32.toInt q = _) (rfl : Int32.toInt p = _) (by omega) (by omega)
                refine v_sipush (v := 4000) C dX9_meetings_60 (by decide) ?_
                refine b_icmp_gt C 76 dX9_meetings_63 (by decide) hx22 (show (4000 : Int32).toInt = 4000 by decide) (fun c23 => ?_) (fun c23 => ?_)
                · refine v_iconst (v := (-1)) C dX9_meetings_76 (by decide) ?_
                  exact v_ret C dX9_meetings_77 rfl rfl ⟨Or.inl ⟨by unfold okME; omega, by decide⟩, hG19⟩
                · refine v_iload C 5 dX9_meetings_66 rfl ?_
                  refine v_iconst (v := 0) C dX9_meetings_68 (by decide) ?_
                  refine v_iconst (v := 2) C dX9_meetings_69 (by decide) ?_
                  refine v_cSp C dX9_meetings_70 lX9_131 mX9_within (d_within l G _ ad _ v 0 2) ⟨by decide, by decide⟩ rfl (Nat.le_of_ble_eq_true rfl) ⟨Nat.zero_le _, Nat.zero_le _⟩ (fun r24 hp25 => ?_)
                  rw [(show (0 : Int32).toInt = 0 by decide), (show (2 : Int32).toInt = 2 by decide)] at hp25
                  rcases hp25 with ⟨rfl, hp25⟩ | ⟨rfl, hp25⟩
                  · refine b_if_ne C 78 dX9_meetings_73 (by decide) (show (1 : Int32).toInt = 1 by decide) (fun c26 => ?_) (fun c26 => absurd c26 (by decide))
                    obtain ⟨P, hP0⟩ : ∃ P : Nat, p.toInt = (P : Int) := ⟨p.toInt.toNat, by omega⟩
                    refine v_iconst (v := 0) C dX9_meetings_78 (by decide) ?_
                    refine v_istore (lv' := [(0, .ref (ad 68)), (1, .int z), (2, .int a), (3, .int p), (4, .int q), (5, .int v), (6, .int 0)]) C [1, 2, 3, 4, 5, 6, 0] dX9_meetings_79 (by decide) rfl ?_
                    refine v_iload_n C 3 dX9_meetings_81 rfl rfl ?_
                    refine v_istore (lv' := [(0, .ref (ad 68)), (1, .int z), (2, .int a), (3, .int p), (4, .int q), (5, .int v), (6, .int 0), (7, .int p)]) C [1, 2, 3, 4, 5, 6, 7, 0] dX9_meetings_82 (by decide) rfl ?_
                    have LP27 : ∀ (t : Nat) (m1 : Nat) (y28 : Int32) (d1 : Nat) (y29 : Int32) (E30 : Nat → va_E), (y28.toInt = (m1 : Int)) → (y29.toInt = (d1 : Int)) → (FQ G ad E E30 im ic md 5 TT) → (P ≤ d1) → ((d1 : Int) ≤ q.toInt + 1) → (m1 ≤ d1) → (m1 = MTn ic (TT zz) a.toInt (P : Int) q.toInt v.toInt (d1 - P)) → q.toInt + 1 - (d1 : Int) < (t : Int) → V X G A 9 (QI X G A (n) ad (fun r E' => MEp ic md k TT z.toInt a.toInt p.toInt q.toInt v.toInt r.toInt ∧ FQ G ad E E' im ic md 5 TT)) (n) ad 0 0 E30 84 [(0, .ref (ad 68)), (1, .int z), (2, .int a), (4, .int q), (5, .int v), (6, .int y28), (7, .int y29)] [] := by
                      intro t35
                      induction t35 with
                      | zero => intro m1 y28 d1 y29 E30 hy28 hy29 hI31 hq32 hq33 hq34 hcnt hm37; exfalso; omega
                      | succ t35 ih36 =>
                        intro m1 y28 d1 y29 E30 hy28 hy29 hI31 hq32 hq33 hq34 hcnt hm37
                        obtain ⟨im38, hi38, hW38, hS38, hO38⟩ := id hI31
                        have hR38 := hR.go (fun j h1 h2 => hO38 j (by omega) (by omega) (by omega))
                        have hTT38 : ∀ z, z < 5 → TT z = TTz ic md rf rto ron rat rbe rtd rm fv (im38 18).toInt z := fun z hz => by rw [hi38 18 (by decide)]; exact hTT z hz
                        have hG38 := hI31
                        have e6838 := hW38.2.2.1
                        refine v_iload C 6 dX9_meetings_84 rfl ?_
                        refine v_iload C 3 dX9_meetings_86 rfl ?_
                        refine b_icmp_gt C 164 dX9_meetings_88 (by decide) hy29 (rfl : Int32.toInt q = _) (fun c39 => ?_) (fun c39 => ?_)
                        · refine v_iload C 5 dX9_meetings_164 rfl ?_
                          have hall : m1 = MTn ic (TT zz) a.toInt (P : Int) q.toInt v.toInt (q.toInt - (P : Int) + 1).toNat := by rw [hcnt]; exact MTn_end (by omega) (by omega)
                          exact v_ret C dX9_meetings_166 rfl rfl ⟨Or.inr ⟨zz, by omega, by unfold okME; omega, by rw [hP0, hy28, ← hall]⟩, hG38⟩
                        · refine v_aload_n C 0 dX9_meetings_91 rfl rfl ?_
                          refine v_iload C 6 dX9_meetings_92 rfl ?_
                          refine v_cVp C dX9_meetings_94 lX9_149 mX9_weekday 68 (by omega) e6838 (by decide) rfl (d_weekday l G n ad _ hn hW38 y29 (by omega) (by omega)) ⟨by decide, by decide⟩ rfl (Nat.le_of_ble_eq_true rfl) ⟨Nat.zero_le _, Nat.zero_le _⟩ (fun r40 hp41 => ?_)
                          rw [hy29] at hp41
                          refine v_iload_n C 2 dX9_meetings_97 rfl rfl ?_
                          refine v_bipush (v := 10) C dX9_meetings_98 (by decide) ?_
                          refine v_irem C dX9_meetings_100 (by decide) ?_
                          refine v_top (fun x42 ex42 => ?_)
                          have hx42 : x42.toInt = (a.toInt % 10) := by rw [ex42]; exact ti_rem (rfl : Int32.toInt a = _) (show (10 : Int32).toInt = 10 by decide) (by omega) (by omega)
                          refine b_icmp_ne C 158 dX9_meetings_101 (by decide) hp41 hx42 (fun c43 => ?_) (fun c43 => ?_)
                          · obtain ⟨x44, ex44⟩ : ∃ y : Int32, y = y29 + 1 := ⟨_, rfl⟩
                            have hx44 : x44.toInt = ((d1 : Int) + 1) := by rw [ex44]; exact ti_add hy29 (show (1 : Int32).toInt = 1 by decide) (by omega) (by omega)
                            refine v_iinc (v := x44) (lv' := [(0, .ref (ad 68)), (1, .int z), (2, .int a), (4, .int q), (5, .int v), (6, .int y28), (7, .int x44)]) C 6 [1, 2, 3, 4, 5, 6, 0] dX9_meetings_158 rfl (ex44.symm) (by decide) rfl ?_
                            refine v_goto C 84 dX9_meetings_161 (by decide) ?_
                            exact ih36 m1 y28 (d1 + 1) x44 E30 (show Int32.toInt y28 = ((m1 : Nat) : Int) by have := hy28; omega) (show Int32.toInt x44 = ((d1 + 1 : Nat) : Int) by have := hx44; omega) (hG38) (by omega) (by omega) (by omega) (by rw [show d1 + 1 - P = (d1 - P) + 1 by omega, MTn_n1 (D := (d1 : Int)) (by omega) (by omega)]; omega) (by omega)
                          · refine v_aload_n C 0 dX9_meetings_104 rfl rfl ?_
                            refine v_iload_n C 1 dX9_meetings_105 rfl rfl ?_
                            refine v_sipush (v := 1440) C dX9_meetings_106 (by decide) ?_
                            refine v_iload C 6 dX9_meetings_109 rfl ?_
                            refine v_imul C dX9_meetings_111 ?_
                            refine v_top (fun x45 ex45 => ?_)
                            have hx45 : x45.toInt = (1440 * (d1 : Int)) := by rw [ex45]; exact ti_mul (show (1440 : Int32).toInt = 1440 by decide) hy29 (by omega) (by omega)
                            refine v_iload_n C 2 dX9_meetings_112 rfl rfl ?_
                            refine v_bipush (v := 10) C dX9_meetings_113 (by decide) ?_
                            refine v_idiv C dX9_meetings_115 (by decide) ?_
                            refine v_top (fun x46 ex46 => ?_)
                            have hx46 : x46.toInt = (a.toInt / 10) := by rw [ex46]; exact ti_div (rfl : Int32.toInt a = _) (show (10 : Int32).toInt = 10 by decide) (by omega) (by omega)
                            refine v_iadd C dX9_meetings_116 ?_
                            refine v_top (fun x47 ex47 => ?_)
                            have hx47 : x47.toInt = ((1440 * (d1 : Int)) + (a.toInt / 10)) := by rw [ex47]; exact ti_add hx45 hx46 (by omega) (by omega)
                            refine v_iconst (v := (-1)) C dX9_meetings_117 (by decide) ?_
                            refine v_cVi C dX9_meetings_118 lX9_191 mX9_momentOf 68 (by omega) e6838 (by decide) rfl (y_momentOf l G n ad _ hn hW38 hR38 hS38 (k := 5) (zz := zz) (by omega) (by omega) hTT38 hV (T := TT zz) rfl (c := (TT zz).1) rfl z x47 (-1) hz (by omega)) ⟨by decide, by decide⟩ rfl (Nat.le_of_ble_eq_true rfl) ⟨Nat.zero_le _, Nat.zero_le _⟩ (fun r48 E49 hq50 => ?_)
                            obtain ⟨hFQ, hcn, -⟩ := hq50
                            have hcv := hcn (by decide)
                            rw [hx47, show ((1440 * (d1 : Int)) + (a.toInt / 10)) = 1440 * (d1 : Int) + a.toInt / 10 by omega] at hcv
                            obtain ⟨im51, hi51, hW51, hS51, hO51⟩ := id hFQ
                            have hR51 := hR38.go (fun j h1 h2 => hO51 j (by omega) (by omega) (by omega))
                            have hTT51 : ∀ z, z < 5 → TT z = TTz ic md rf rto ron rat rbe rtd rm fv (im51 18).toInt z := fun z hz => by rw [hi51 18 (by decide)]; exact hTT38 z hz
                            have hG51 := FQ.trans hi38 hO38 hFQ
                            have hit51 : ∀ q, q ≠ 7 → im51 q = im q := fun q hq => (hi51 q hq).trans (hi38 q hq)
                            have hOt51 : ∀ j, j ≠ 68 → j ≠ 70 → (j < 79 ∨ 84 < j) → E49 j = E j := fun j g1 g2 g3 => (hO51 j g1 g2 g3).trans (hO38 j g1 g2 g3)
                            have e6851 := hW51.2.2.1
                            refine v_istore (lv' := [(0, .ref (ad 68)), (1, .int z), (2, .int a), (4, .int q), (5, .int v), (6, .int y28), (7, .int y29), (8, .int r48)]) C [1, 2, 3, 4, 5, 6, 7, 0] dX9_meetings_121 (by decide) rfl ?_
                            refine v_iload C 5 dX9_meetings_123 rfl ?_
                            refine v_iload C 4 dX9_meetings_125 rfl ?_
                            refine v_iconst (v := 2) C dX9_meetings_127 (by decide) ?_
                            refine b_icmp_eq C 150 dX9_meetings_128 (by decide) (rfl : Int32.toInt v = _) (show (2 : Int32).toInt = 2 by decide) (fun c52 => ?_) (fun c52 => ?_)
                            · refine v_iconst (v := 1) C dX9_meetings_150 (by decide) ?_
                              refine v_goto C 155 dX9_meetings_151 (by decide) ?_
                              refine v_iadd C dX9_meetings_155 ?_
                              refine v_top (fun x53 ex53 => ?_)
                              have hx53 : x53.toInt = ((m1 : Int) + 1) := by rw [ex53]; exact ti_add hy28 (show (1 : Int32).toInt = 1 by decide) (by omega) (by omega)
                              refine v_istore (lv' := [(0, .ref (ad 68)), (1, .int z), (2, .int a), (4, .int q), (5, .int v), (6, .int x53), (7, .int y29), (8, .int r48)]) C [1, 2, 3, 4, 5, 0, 6, 7] dX9_meetings_156 (by decide) rfl ?_
                              obtain ⟨x54, ex54⟩ : ∃ y : Int32, y = y29 + 1 := ⟨_, rfl⟩
                              have hx54 : x54.toInt = ((d1 : Int) + 1) := by rw [ex54]; exact ti_add hy29 (show (1 : Int32).toInt = 1 by decide) (by omega) (by omega)
                              refine v_iinc (v := x54) (lv' := [(0, .ref (ad 68)), (1, .int z), (2, .int a), (4, .int q), (5, .int v), (6, .int x53), (7, .int x54), (8, .int r48)]) C 6 [1, 2, 3, 4, 5, 6, 0, 7] dX9_meetings_158 rfl (ex54.symm) (by decide) rfl ?_
                              refine v_goto C 84 dX9_meetings_161 (by decide) ?_
                              refine v_sub (lv' := [(0, .ref (ad 68)), (1, .int z), (2, .int a), (4, .int q), (5, .int v), (6, .int x53), (7, .int x54)]) [0, 1, 2, 3, 4, 5, 6] rfl ?_
                              exact ih36 (m1 + 1) x53 (d1 + 1) x54 E49 (show Int32.toInt x53 = ((m1 + 1 : Nat) : Int) by have := hx53; omega) (show Int32.toInt x54 = ((d1 + 1 : Nat) : Int) by have := hx54; omega) (hG51) (by omega) (by omega) (by omega) (by rw [show d1 + 1 - P = (d1 - P) + 1 by omega, MTn_y1 (D := (d1 : Int)) (by omega) (by omega) (by omega) (by omega)]; omega) (by omega)
                            · refine v_iload C 4 dX9_meetings_131 rfl ?_
                              refine b_if_ne C 144 dX9_meetings_133 (by decide) (rfl : Int32.toInt v = _) (fun c55 => ?_) (fun c55 => ?_)
                              · refine v_iload C 7 dX9_meetings_144 rfl ?_
                                refine v_iconst (v := 1) C dX9_meetings_146 (by decide) ?_
                                refine b_icmp_le C 154 dX9_meetings_147 (by decide) hcv (show (1 : Int32).toInt = 1 by decide) (fun c56 => ?_) (fun c56 => ?_)
                                · refine v_iconst (v := 0) C dX9_meetings_154 (by decide) ?_
                                  refine v_iadd C dX9_meetings_155 ?_
                                  refine v_top (fun x57 ex57 => ?_)
                                  have hx57 : x57.toInt = ((m1 : Int) + 0) := by rw [ex57]; exact ti_add hy28 (show (0 : Int32).toInt = 0 by decide) (by omega) (by omega)
                                  refine v_istore (lv' := [(0, .ref (ad 68)), (1, .int z), (2, .int a), (4, .int q), (5, .int v), (6, .int x57), (7, .int y29), (8, .int r48)]) C [1, 2, 3, 4, 5, 0, 6, 7] dX9_meetings_156 (by decide) rfl ?_
                                  obtain ⟨x58, ex58⟩ : ∃ y : Int32, y = y29 + 1 := ⟨_, rfl⟩
                                  have hx58 : x58.toInt = ((d1 : Int) + 1) := by rw [ex58]; exact ti_add hy29 (show (1 : Int32).toInt = 1 by decide) (by omega) (by omega)
                                  refine v_iinc (v := x58) (lv' := [(0, .ref (ad 68)), (1, .int z), (2, .int a), (4, .int q), (5, .int v), (6, .int x57), (7, .int x58), (8, .int r48)]) C 6 [1, 2, 3, 4, 5, 6, 0, 7] dX9_meetings_158 rfl (ex58.symm) (by decide) rfl ?_
                                  refine v_goto C 84 dX9_meetings_161 (by decide) ?_
                                  refine v_sub (lv' := [(0, .ref (ad 68)), (1, .int z), (2, .int a), (4, .int q), (5, .int v), (6, .int x57), (7, .int x58)]) [0, 1, 2, 3, 4, 5, 6] rfl ?_
                                  exact ih36 (m1 + 0) x57 (d1 + 1) x58 E49 (show Int32.toInt x57 = ((m1 + 0 : Nat) : Int) by have := hx57; omega) (show Int32.toInt x58 = ((d1 + 1 : Nat) : Int) by have := hx58; omega) (hG51) (by omega) (by omega) (by omega) (by rw [show d1 + 1 - P = (d1 - P) + 1 by omega, MTn_n1 (D := (d1 : Int)) (by omega) (by omega)]; omega) (by omega)
                                · refine v_iconst (v := 1) C dX9_meetings_150 (by decide) ?_
                                  refine v_goto C 155 dX9_meetings_151 (by decide) ?_
                                  refine v_iadd C dX9_meetings_155 ?_
                                  refine v_top (fun x59 ex59 => ?_)
                                  have hx59 : x59.toInt = ((m1 : Int) + 1) := by rw [ex59]; exact ti_add hy28 (show (1 : Int32).toInt = 1 by decide) (by omega) (by omega)
                                  refine v_istore (lv' := [(0, .ref (ad 68)), (1, .int z), (2, .int a), (4, .int q), (5, .int v), (6, .int x59), (7, .int y29), (8, .int r48)]) C [1, 2, 3, 4, 5, 0, 6, 7] dX9_meetings_156 (by decide) rfl ?_
                                  obtain ⟨x60, ex60⟩ : ∃ y : Int32, y = y29 + 1 := ⟨_, rfl⟩
                                  have hx60 : x60.toInt = ((d1 : Int) + 1) := by rw [ex60]; exact ti_add hy29 (show (1 : Int32).toInt = 1 by decide) (by omega) (by omega)
                                  refine v_iinc (v := x60) (lv' := [(0, .ref (ad 68)), (1, .int z), (2, .int a), (4, .int q), (5, .int v), (6, .int x59), (7, .int x60), (8, .int r48)]) C 6 [1, 2, 3, 4, 5, 6, 0, 7] dX9_meetings_158 rfl (ex60.symm) (by decide) rfl ?_
                                  refine v_goto C 84 dX9_meetings_161 (by decide) ?_
                                  refine v_sub (lv' := [(0, .ref (ad 68)), (1, .int z), (2, .int a), (4, .int q), (5, .int v), (6, .int x59), (7, .int x60)]) [0, 1, 2, 3, 4, 5, 6] rfl ?_
                                  exact ih36 (m1 + 1) x59 (d1 + 1) x60 E49 (show Int32.toInt x59 = ((m1 + 1 : Nat) : Int) by have := hx59; omega) (show Int32.toInt x60 = ((d1 + 1 : Nat) : Int) by have := hx60; omega) (hG51) (by omega) (by omega) (by omega) (by rw [show d1 + 1 - P = (d1 - P) + 1 by omega, MTn_y1 (D := (d1 : Int)) (by omega) (by omega) (by omega) (by omega)]; omega) (by omega)
                              · refine v_iload C 7 dX9_meetings_136 rfl ?_
                                refine b_if_ne C 154 dX9_meetings_138 (by decide) hcv (fun c61 => ?_) (fun c61 => ?_)
                                · refine v_iconst (v := 0) C dX9_meetings_154 (by decide) ?_
                                  refine v_iadd C dX9_meetings_155 ?_
                                  refine v_top (fun x62 ex62 => ?_)
                                  have hx62 : x62.toInt = ((m1 : Int) + 0) := by rw [ex62]; exact ti_add hy28 (show (0 : Int32).toInt = 0 by decide) (by omega) (by omega)
                                  refine v_istore (lv' := [(0, .ref (ad 68)), (1, .int z), (2, .int a), (4, .int q), (5, .int v), (6, .int x62), (7, .int y29), (8, .int r48)]) C [1, 2, 3, 4, 5, 0, 6, 7] dX9_meetings_156 (by decide) rfl ?_
                                  obtain ⟨x63, ex63⟩ : ∃ y : Int32, y = y29 + 1 := ⟨_, rfl⟩
                                  have hx63 : x63.toInt = ((d1 : Int) + 1) := by rw [ex63]; exact ti_add hy29 (show (1 : Int32).toInt = 1 by decide) (by omega) (by omega)
                                  refine v_iinc (v := x63) (lv' := [(0, .ref (ad 68)), (1, .int z), (2, .int a), (4, .int q), (5, .int v), (6, .int x62), (7, .int x63), (8, .int r48)]) C 6 [1, 2, 3, 4, 5, 6, 0, 7] dX9_meetings_158 rfl (ex63.symm) (by decide) rfl ?_
                                  refine v_goto C 84 dX9_meetings_161 (by decide) ?_
                                  refine v_sub (lv' := [(0, .ref (ad 68)), (1, .int z), (2, .int a), (4, .int q), (5, .int v), (6, .int x62), (7, .int x63)]) [0, 1, 2, 3, 4, 5, 6] rfl ?_
                                  exact ih36 (m1 + 0) x62 (d1 + 1) x63 E49 (show Int32.toInt x62 = ((m1 + 0 : Nat) : Int) by have := hx62; omega) (show Int32.toInt x63 = ((d1 + 1 : Nat) : Int) by have := hx63; omega) (hG51) (by omega) (by omega) (by omega) (by rw [show d1 + 1 - P = (d1 - P) + 1 by omega, MTn_n1 (D := (d1 : Int)) (by omega) (by omega)]; omega) (by omega)
                                · refine v_goto C 150 dX9_meetings_141 (by decide) ?_
                                  refine v_iconst (v := 1) C dX9_meetings_150 (by decide) ?_
                                  refine v_goto C 155 dX9_meetings_151 (by decide) ?_
                                  refine v_iadd C dX9_meetings_155 ?_
                                  refine v_top (fun x64 ex64 => ?_)
                                  have hx64 : x64.toInt = ((m1 : Int) + 1) := by rw [ex64]; exact ti_add hy28 (show (1 : Int32).toInt = 1 by decide) (by omega) (by omega)
                                  refine v_istore (lv' := [(0, .ref (ad 68)), (1, .int z), (2, .int a), (4, .int q), (5, .int v), (6, .int x64), (7, .int y29), (8, .int r48)]) C [1, 2, 3, 4, 5, 0, 6, 7] dX9_meetings_156 (by decide) rfl ?_
                                  obtain ⟨x65, ex65⟩ : ∃ y : Int32, y = y29 + 1 := ⟨_, rfl⟩
                                  have hx65 : x65.toInt = ((d1 : Int) + 1) := by rw [ex65]; exact ti_add hy29 (show (1 : Int32).toInt = 1 by decide) (by omega) (by omega)
                                  refine v_iinc (v := x65) (lv' := [(0, .ref (ad 68)), (1, .int z), (2, .int a), (4, .int q), (5, .int v), (6, .int x64), (7, .int x65), (8, .int r48)]) C 6 [1, 2, 3, 4, 5, 6, 0, 7] dX9_meetings_158 rfl (ex65.symm) (by decide) rfl ?_
                                  refine v_goto C 84 dX9_meetings_161 (by decide) ?_
                                  refine v_sub (lv' := [(0, .ref (ad 68)), (1, .int z), (2, .int a), (4, .int q), (5, .int v), (6, .int x64), (7, .int x65)]) [0, 1, 2, 3, 4, 5, 6] rfl ?_
                                  exact ih36 (m1 + 1) x64 (d1 + 1) x65 E49 (show Int32.toInt x64 = ((m1 + 1 : Nat) : Int) by have := hx64; omega) (show Int32.toInt x65 = ((d1 + 1 : Nat) : Int) by have := hx65; omega) (hG51) (by omega) (by omega) (by omega) (by rw [show d1 + 1 - P = (d1 - P) + 1 by omega, MTn_y1 (D := (d1 : Int)) (by omega) (by omega) (by omega) (by omega)]; omega) (by omega)
                    refine v_sub (lv' := [(0, .ref (ad 68)), (1, .int z), (2, .int a), (4, .int q), (5, .int v), (6, .int 0), (7, .int p)]) [0, 1, 2, 4, 5, 6, 7] rfl ?_
                    exact LP27 100000 0 0 P p E17 (show Int32.toInt 0 = ((0 : Nat) : Int) by have := (show (0 : Int32).toInt = 0 by decide); omega) (show Int32.toInt p = ((P : Nat) : Int) by have := hP0; omega) (hG19) (by omega) (by omega) (by omega) (by rw [show P - P = 0 by omega]; rfl) (by omega)
                  · refine b_if_ne C 78 dX9_meetings_73 (by decide) (show (0 : Int32).toInt = 0 by decide) (fun c66 => absurd c66 (by decide)) (fun c66 => ?_)
                    refine v_iconst (v := (-1)) C dX9_meetings_76 (by decide) ?_
                    exact v_ret C dX9_meetings_77 rfl rfl ⟨Or.inl ⟨by unfold okME; omega, by decide⟩, hG19⟩
            · refine b_if_eq C 76 dX9_meetings_47 (by decide) (show (0 : Int32).toInt = 0 by decide) (fun c67 => ?_) (fun c67 => absurd c67 (by decide))
              refine v_iconst (v := (-1)) C dX9_meetings_76 (by decide) ?_
              exact v_ret C dX9_meetings_77 rfl rfl ⟨Or.inl ⟨by unfold okME; omega, by decide⟩, hG19⟩
          · refine b_if_eq C 76 dX9_meetings_38 (by decide) (show (0 : Int32).toInt = 0 by decide) (fun c68 => ?_) (fun c68 => absurd c68 (by decide))
            refine v_iconst (v := (-1)) C dX9_meetings_76 (by decide) ?_
            exact v_ret C dX9_meetings_77 rfl rfl ⟨Or.inl ⟨by unfold okME; omega, by decide⟩, hG13⟩
  · rw [hk] at hp2
    refine b_if_eq C 76 dX9_meetings_5 (by decide) (show (0 : Int32).toInt = 0 by decide) (fun c69 => ?_) (fun c69 => absurd c69 (by decide))
    refine v_iconst (v := (-1)) C dX9_meetings_76 (by decide) ?_
    exact v_ret C dX9_meetings_77 rfl rfl ⟨Or.inl ⟨by unfold okME; omega, by decide⟩, FQ.refl hW hS⟩

