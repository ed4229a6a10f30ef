set_option maxRecDepth 20000 in
theorem y_comesTo (l : Launch) (G : Gl) (n : Nat) (ad : Nat → Nat) (E : Nat → va_E) (hn : 98 ≤ n) {im ic md : Nat → Int32} (hW : MCal G ad E im ic md) {rf rto ron rat rbe rtd rm fv : Nat → Int32} (hR : ZMr G E rf rto ron rat rbe rtd rm fv) {TT : Nat → TST} (hS : ZMs G E 5 TT) (hTT : ∀ z, z < 5 → TT z = TTz ic md rf rto ron rat rbe rtd rm fv (im 18).toInt z) (hV : ∀ z, z < 5 → RZv ic rf rto ron rat rbe rtd rm fv z) {kd vl : Nat → Int32} (h92 : E 92 = aI G 8 kd) (h93 : E 93 = aI G 8 vl) {h : Nat} (hh : (im 35).toInt = (h : Int)) (h1 : 1 ≤ h) (h8 : h ≤ 8) (hkb : 0 ≤ (kd (h - 1)).toInt ∧ (kd (h - 1)).toInt ≤ 3) (v : Int64) : CtI l G yX9_comesTo cX9_comesTo 5 .boolean 3 64 (n) ad E [.ref (ad 68), .long v] (fun r E' => (r = 1 ∧ wiK ic md (kd (h - 1)).toInt (Int64.toInt v) ∧ ∃ x : Int32, x.toInt = Int64.toInt v ∧ CSt G ad E E' im ic md TT (upd vl (h - 1) x)) ∨ (r = 0 ∧ ¬ wiK ic md (kd (h - 1)).toInt (Int64.toInt v) ∧ ∃ vl' : Nat → Int32, CSt G ad E E' im ic md TT vl')) := by
  refine CtI.of (by decide) (Nat.le_of_ble_eq_true rfl) (fun X A C => ?_)
  refine v_sub (lv' := [(0, .ref (ad 68)), (1, .long v)]) [0, 1] rfl ?_
  have hP := hW.2.1
  have h68 := hW.2.2.1
  have hcy := cal_y hP
  have h8T : ∀ z, z < 5 → (TT z).1 ≤ 800 := fun z hz => by rw [hTT z hz]; exact (TTz_ok hP (hV z hz)).2
  have hokT : ∀ z, z < 5 → okT 69300000 (TT z) := fun z hz => by rw [hTT z hz]; exact (TTz_ok hP (hV z hz)).1
  refine v_aload_n C 0 dX9_comesTo_0 rfl rfl ?_
  refine v_getr C 68 dX9_comesTo_1 fX9_97 (by omega) h68 rfl rfl ?_
  refine v_aload_n C 0 dX9_comesTo_4 rfl rfl ?_
  refine v_geti (v := im 35) C 68 dX9_comesTo_5 fX9_203 (by omega) h68 rfl rfl ?_
  refine v_iconst (v := 1) C dX9_comesTo_8 (by decide) ?_
  refine v_isub C dX9_comesTo_9 ?_
  refine v_top (fun x1 ex1 => ?_)
  have hx1 : x1.toInt = ((h : Int) - 1) := by rw [ex1]; exact ti_sub hh (show (1 : Int32).toInt = 1 by decide) (by omega) (by omega)
  refine v_ald (v := kd (h - 1)) C 92 dX9_comesTo_10 (by omega) h92 (ti_in hx1 (by omega) (by omega)) (by rw [ti_cl hx1, show Int.toNat ((h : Int) - 1) = h - 1 by omega]) ?_
  refine v_istore_n (lv' := [(0, .ref (ad 68)), (1, .long v), (3, .int (kd (h - 1)))]) C [1, 2, 0] dX9_comesTo_11 rfl (by decide) rfl ?_
  refine v_iload_n C 2 dX9_comesTo_12 rfl rfl ?_
  refine b_if_ne C 38 dX9_comesTo_13 (by decide) (rfl : Int32.toInt (kd (h - 1)) = _) (fun c2 => ?_) (fun c2 => ?_)
  · refine v_iload_n C 2 dX9_comesTo_38 rfl rfl ?_
    refine v_iconst (v := 3) C dX9_comesTo_39 (by decide) ?_
    refine b_icmp_ne C 67 dX9_comesTo_40 (by decide) (rfl : Int32.toInt (kd (h - 1)) = _) (show (3 : Int32).toInt = 3 by decide) (fun c3 => ?_) (fun c3 => ?_)
    · refine v_iload_n C 2 dX9_comesTo_67 rfl rfl ?_
      refine v_iconst (v := 2) C dX9_comesTo_68 (by decide) ?_
      refine b_icmp_ne C 96 dX9_comesTo_69 (by decide) (rfl : Int32.toInt (kd (h - 1)) = _) (show (2 : Int32).toInt = 2 by decide) (fun c4 => ?_) (fun c4 => ?_)
      · refine v_lload_n C 1 dX9_comesTo_96 rfl rfl ?_
        refine v_lconst (v := 0) C dX9_comesTo_97 (by decide) ?_
        refine v_lcmp C dX9_comesTo_98 ?_
        refine v_top (fun x5 ex5 => ?_)
        have hx5 : (0 < Int64.toInt v ∧ x5.toInt = 1) ∨ (Int64.toInt v = 0 ∧ x5.toInt = 0) ∨ (Int64.toInt v < 0 ∧ x5.toInt = -1) := by rw [ex5]; exact tl_cmp (rfl : Int64.toInt v = _) (show ((0 : Int64)).toInt = 0 by decide)
        refine b_if_lt C 120 dX9_comesTo_99 (by decide) (rfl : Int32.toInt x5 = _) (fun c6 => ?_) (fun c6 => ?_)
        · refine v_iconst (v := 0) C dX9_comesTo_120 (by decide) ?_
          refine v_istore (lv' := [(0, .ref (ad 68)), (1, .long v), (3, .int (kd (h - 1))), (4, .int 0)]) C [1, 2, 3, 0] dX9_comesTo_121 (by decide) rfl ?_
          refine v_aload_n C 0 dX9_comesTo_123 rfl rfl ?_
          refine v_getr C 68 dX9_comesTo_124 fX9_100 (by omega) h68 rfl rfl ?_
          refine v_aload_n C 0 dX9_comesTo_127 rfl rfl ?_
          refine v_geti (v := im 35) C 68 dX9_comesTo_128 fX9_203 (by omega) h68 rfl rfl ?_
          refine v_iconst (v := 1) C dX9_comesTo_131 (by decide) ?_
          refine v_isub C dX9_comesTo_132 ?_
          refine v_top (fun x7 ex7 => ?_)
          have hx7 : x7.toInt = ((h : Int) - 1) := by rw [ex7]; exact ti_sub hh (show (1 : Int32).toInt = 1 by decide) (by omega) (by omega)
          refine v_iload C 3 dX9_comesTo_133 rfl ?_
          refine b_if_eq C 143 dX9_comesTo_135 (by decide) (show (0 : Int32).toInt = 0 by decide) (fun c8 => ?_) (fun c8 => absurd c8 (by decide))
          refine v_iconst (v := 0) C dX9_comesTo_143 (by decide) ?_
          refine v_ast C 93 dX9_comesTo_144 (by omega) h93 (ti_in hx7 (by omega) (by omega)) (fun E9 hE9_93 oE9 => ?_)
          rw [ti_cl hx7, show Int.toNat ((h : Int) - 1) = h - 1 by omega] at hE9_93
          have hE9_68 := (oE9 68 (by decide)).trans h68
          have hE9_92 := (oE9 92 (by decide)).trans h92
          have hW10 := hW.of (oE9 68 (by decide)) (oE9 69 (by decide)) (oE9 70 (by decide))
          have hR10 := hR.go (fun j _ _ => oE9 j (by omega))
          have hS10 := hS.go (fun j _ _ => oE9 j (by omega))
          refine v_iload C 3 dX9_comesTo_145 rfl ?_
          exact v_ret C dX9_comesTo_147 rfl rfl (Or.inr ⟨rfl, by unfold wiK; omega, _, ⟨_, (fun _ _ => rfl), hW10, hS10, hE9_93, fun j g0 g1 g2 g3 => (oE9 j (by omega))⟩⟩)
        · refine v_lload_n C 1 dX9_comesTo_102 rfl rfl ?_
          refine v_ldc2 C dX9_comesTo_103 kX9_231 ?_
          refine v_aload_n C 0 dX9_comesTo_106 rfl rfl ?_
          refine v_cVi C dX9_comesTo_107 lX9_127 mX9_allDays 68 (by omega) h68 (by decide) rfl (d_allDays l G n ad _ hn hW) ⟨by decide, by decide⟩ rfl (Nat.le_of_ble_eq_true rfl) ⟨Nat.zero_le _, Nat.zero_le _⟩ (fun r11 E12 hq13 => ?_)
          obtain ⟨hall, hq13⟩ := hq13
          have hFE12 := FQ.mr hS hq13
          obtain ⟨im14, hi14, hW14, hS14, hO14⟩ := id hFE12
          have hR14 := hR.go (fun j h1 h2 => hO14 j (by omega) (by omega) (by omega))
          have hT14 : ∀ z, z < 5 → TT z = TTz ic md rf rto ron rat rbe rtd rm fv (im14 18).toInt z := fun z hz => by rw [hi14 18 (by decide)]; exact hTT z hz
          have hI14 : ∀ q, q ≠ 7 → q ≠ 35 → im14 q = im q := fun q g1 g2 => (hi14 q g1).trans ((fun _ _ _ => rfl) q g1 g2)
          have hJ14 : ∀ q, q ≠ 7 → im14 q = im q := fun q g1 => (hi14 q g1).trans ((fun _ _ => rfl) q g1)
          have hE12_92 := (hO14 92 (by decide) (by decide) (by decide)).trans h92
          have hE12_93 := (hO14 93 (by decide) (by decide) (by decide)).trans h93
          have e6814 := hW14.2.2.1
          have hp3514 : (im14 35).toInt = (h : Int) := by rw [hi14 35 (by decide)]; exact hh
          refine v_i2l C dX9_comesTo_110 rfl ?_
          refine v_topl (fun x15 ex15 => ?_)
          have hx15 : x15.toInt = (YSf md (ic 4).toInt (ic 5).toInt 100) := by rw [ex15]; exact tl_of hall
          refine v_lmul C dX9_comesTo_111 ?_
          refine v_topl (fun x16 ex16 => ?_)
          have hx16 : x16.toInt = (1440 * (YSf md (ic 4).toInt (ic 5).toInt 100)) := by rw [ex16]; exact tl_mul (show ((1440 : Int64)).toInt = 1440 by decide) hx15 (by omega) (by omega)
          refine v_lcmp C dX9_comesTo_112 ?_
          refine v_top (fun x17 ex17 => ?_)
          have hx17 : ((1440 * (YSf md (ic 4).toInt (ic 5).toInt 100)) < Int64.toInt v ∧ x17.toInt = 1) ∨ (Int64.toInt v = (1440 * (YSf md (ic 4).toInt (ic 5).toInt 100)) ∧ x17.toInt = 0) ∨ (Int64.toInt v < (1440 * (YSf md (ic 4).toInt (ic 5).toInt 100)) ∧ x17.toInt = -1) := by rw [ex17]; exact tl_cmp (rfl : Int64.toInt v = _) hx16
          refine b_if_ge C 120 dX9_comesTo_113 (by decide) (rfl : Int32.toInt x17 = _) (fun c18 => ?_) (fun c18 => ?_)
          · refine v_iconst (v := 0) C dX9_comesTo_120 (by decide) ?_
            refine v_istore (lv' := [(0, .ref (ad 68)), (1, .long v), (3, .int (kd (h - 1))), (4, .int 0)]) C [1, 2, 3, 0] dX9_comesTo_121 (by decide) rfl ?_
            refine v_aload_n C 0 dX9_comesTo_123 rfl rfl ?_
            refine v_getr C 68 dX9_comesTo_124 fX9_100 (by omega) e6814 rfl rfl ?_
            refine v_aload_n C 0 dX9_comesTo_127 rfl rfl ?_
            refine v_geti (v := im14 35) C 68 dX9_comesTo_128 fX9_203 (by omega) e6814 rfl rfl ?_
            refine v_iconst (v := 1) C dX9_comesTo_131 (by decide) ?_
            refine v_isub C dX9_comesTo_132 ?_
            refine v_top (fun x19 ex19 => ?_)
            have hx19 : x19.toInt = ((h : Int) - 1) := by rw [ex19]; exact ti_sub hp3514 (show (1 : Int32).toInt = 1 by decide) (by omega) (by omega)
            refine v_iload C 3 dX9_comesTo_133 rfl ?_
            refine b_if_eq C 143 dX9_comesTo_135 (by decide) (show (0 : Int32).toInt = 0 by decide) (fun c20 => ?_) (fun c20 => absurd c20 (by decide))
            refine v_iconst (v := 0) C dX9_comesTo_143 (by decide) ?_
            refine v_ast C 93 dX9_comesTo_144 (by omega) hE12_93 (ti_in hx19 (by omega) (by omega)) (fun E21 hE21_93 oE21 => ?_)
            rw [ti_cl hx19, show Int.toNat ((h : Int) - 1) = h - 1 by omega] at hE21_93
            have hE21_68 := (oE21 68 (by decide)).trans e6814
            have hE21_92 := (oE21 92 (by decide)).trans hE12_92
            have hW22 := hW14.of (oE21 68 (by decide)) (oE21 69 (by decide)) (oE21 70 (by decide))
            have hR22 := hR14.go (fun j _ _ => oE21 j (by omega))
            have hS22 := hS14.go (fun j _ _ => oE21 j (by omega))
            refine v_iload C 3 dX9_comesTo_145 rfl ?_
            exact v_ret C dX9_comesTo_147 rfl rfl (Or.inr ⟨rfl, by unfold wiK; omega, _, ⟨_, hJ14, hW22, hS22, hE21_93, fun j g0 g1 g2 g3 => ((oE21 j (by omega)).trans (hO14 j (by omega) (by omega) (by omega)))⟩⟩)
          · refine v_iconst (v := 1) C dX9_comesTo_116 (by decide) ?_
            refine v_goto C 121 dX9_comesTo_117 (by decide) ?_
            refine v_istore (lv' := [(0, .ref (ad 68)), (1, .long v), (3, .int (kd (h - 1))), (4, .int 1)]) C [1, 2, 3, 0] dX9_comesTo_121 (by decide) rfl ?_
            refine v_aload_n C 0 dX9_comesTo_123 rfl rfl ?_
            refine v_getr C 68 dX9_comesTo_124 fX9_100 (by omega) e6814 rfl rfl ?_
            refine v_aload_n C 0 dX9_comesTo_127 rfl rfl ?_
            refine v_geti (v := im14 35) C 68 dX9_comesTo_128 fX9_203 (by omega) e6814 rfl rfl ?_
            refine v_iconst (v := 1) C dX9_comesTo_131 (by decide) ?_
            refine v_isub C dX9_comesTo_132 ?_
            refine v_top (fun x23 ex23 => ?_)
            have hx23 : x23.toInt = ((h : Int) - 1) := by rw [ex23]; exact ti_sub hp3514 (show (1 : Int32).toInt = 1 by decide) (by omega) (by omega)
            refine v_iload C 3 dX9_comesTo_133 rfl ?_
            refine b_if_eq C 143 dX9_comesTo_135 (by decide) (show (1 : Int32).toInt = 1 by decide) (fun c24 => absurd c24 (by decide)) (fun c24 => ?_)
            refine v_lload_n C 1 dX9_comesTo_138 rfl rfl ?_
            refine v_l2i C dX9_comesTo_139 rfl ?_
            refine v_top (fun x25 ex25 => ?_)
            have hx25 : x25.toInt = Int64.toInt v := by rw [ex25]; exact tl_i (rfl : Int64.toInt v = _) (by omega) (by omega)
            refine v_goto C 144 dX9_comesTo_140 (by decide) ?_
            refine v_ast C 93 dX9_comesTo_144 (by omega) hE12_93 (ti_in hx23 (by omega) (by omega)) (fun E26 hE26_93 oE26 => ?_)
            rw [ti_cl hx23, show Int.toNat ((h : Int) - 1) = h - 1 by omega] at hE26_93
            have hE26_68 := (oE26 68 (by decide)).trans e6814
            have hE26_92 := (oE26 92 (by decide)).trans hE12_92
            have hW27 := hW14.of (oE26 68 (by decide)) (oE26 69 (by decide)) (oE26 70 (by decide))
            have hR27 := hR14.go (fun j _ _ => oE26 j (by omega))
            have hS27 := hS14.go (fun j _ _ => oE26 j (by omega))
            refine v_iload C 3 dX9_comesTo_145 rfl ?_
            exact v_ret C dX9_comesTo_147 rfl rfl (Or.inl ⟨rfl, by unfold wiK; omega, _, hx25, ⟨_, hJ14, hW27, hS27, hE26_93, fun j g0 g1 g2 g3 => ((oE26 j (by omega)).trans (hO14 j (by omega) (by omega) (by omega)))⟩⟩)
      · refine v_lload_n C 1 dX9_comesTo_72 rfl rfl ?_
        refine v_lconst (v := 0) C dX9_comesTo_73 (by decide) ?_
        refine v_lcmp C dX9_comesTo_74 ?_
        refine v_top (fun x28 ex28 => ?_)
        have hx28 : (0 < Int64.toInt v ∧ x28.toInt = 1) ∨ (Int64.toInt v = 0 ∧ x28.toInt = 0) ∨ (Int64.toInt v < 0 ∧ x28.toInt = -1) := by rw [ex28]; exact tl_cmp (rfl : Int64.toInt v = _) (show ((0 : Int64)).toInt = 0 by decide)
        refine b_if_lt C 92 dX9_comesTo_75 (by decide) (rfl : Int32.toInt x28 = _) (fun c29 => ?_) (fun c29 => ?_)
        · refine v_iconst (v := 0) C dX9_comesTo_92 (by decide) ?_
          refine v_goto C 121 dX9_comesTo_93 (by decide) ?_
          refine v_istore (lv' := [(0, .ref (ad 68)), (1, .long v), (3, .int (kd (h - 1))), (4, .int 0)]) C [1, 2, 3, 0] dX9_comesTo_121 (by decide) rfl ?_
          refine v_aload_n C 0 dX9_comesTo_123 rfl rfl ?_
          refine v_getr C 68 dX9_comesTo_124 fX9_100 (by omega) h68 rfl rfl ?_
          refine v_aload_n C 0 dX9_comesTo_127 rfl rfl ?_
          refine v_geti (v := im 35) C 68 dX9_comesTo_128 fX9_203 (by omega) h68 rfl rfl ?_
          refine v_iconst (v := 1) C dX9_comesTo_131 (by decide) ?_
          refine v_isub C dX9_comesTo_132 ?_
          refine v_top (fun x30 ex30 => ?_)
          have hx30 : x30.toInt = ((h : Int) - 1) := by rw [ex30]; exact ti_sub hh (show (1 : Int32).toInt = 1 by decide) (by omega) (by omega)
          refine v_iload C 3 dX9_comesTo_133 rfl ?_
          refine b_if_eq C 143 dX9_comesTo_135 (by decide) (show (0 : Int32).toInt = 0 by decide) (fun c31 => ?_) (fun c31 => absurd c31 (by decide))
          refine v_iconst (v := 0) C dX9_comesTo_143 (by decide) ?_
          refine v_ast C 93 dX9_comesTo_144 (by omega) h93 (ti_in hx30 (by omega) (by omega)) (fun E32 hE32_93 oE32 => ?_)
          rw [ti_cl hx30, show Int.toNat ((h : Int) - 1) = h - 1 by omega] at hE32_93
          have hE32_68 := (oE32 68 (by decide)).trans h68
          have hE32_92 := (oE32 92 (by decide)).trans h92
          have hW33 := hW.of (oE32 68 (by decide)) (oE32 69 (by decide)) (oE32 70 (by decide))
          have hR33 := hR.go (fun j _ _ => oE32 j (by omega))
          have hS33 := hS.go (fun j _ _ => oE32 j (by omega))
          refine v_iload C 3 dX9_comesTo_145 rfl ?_
          exact v_ret C dX9_comesTo_147 rfl rfl (Or.inr ⟨rfl, by unfold wiK; omega, _, ⟨_, (fun _ _ => rfl), hW33, hS33, hE32_93, fun j g0 g1 g2 g3 => (oE32 j (by omega))⟩⟩)
        · refine v_lload_n C 1 dX9_comesTo_78 rfl rfl ?_
          refine v_aload_n C 0 dX9_comesTo_79 rfl rfl ?_
          refine v_cVi C dX9_comesTo_80 lX9_127 mX9_allDays 68 (by omega) h68 (by decide) rfl (d_allDays l G n ad _ hn hW) ⟨by decide, by decide⟩ rfl (Nat.le_of_ble_eq_true rfl) ⟨Nat.zero_le _, Nat.zero_le _⟩ (fun r34 E35 hq36 => ?_)
          obtain ⟨hall, hq36⟩ := hq36
          have hFE35 := FQ.mr hS hq36
          obtain ⟨im37, hi37, hW37, hS37, hO37⟩ := id hFE35
          have hR37 := hR.go (fun j h1 h2 => hO37 j (by omega) (by omega) (by omega))
          have hT37 : ∀ z, z < 5 → TT z = TTz ic md rf rto ron rat rbe rtd rm fv (im37 18).toInt z := fun z hz => by rw [hi37 18 (by decide)]; exact hTT z hz
          have hI37 : ∀ q, q ≠ 7 → q ≠ 35 → im37 q = im q := fun q g1 g2 => (hi37 q g1).trans ((fun _ _ _ => rfl) q g1 g2)
          have hJ37 : ∀ q, q ≠ 7 → im37 q = im q := fun q g1 => (hi37 q g1).trans ((fun _ _ => rfl) q g1)
          have hE35_92 := (hO37 92 (by decide) (by decide) (by decide)).trans h92
          have hE35_93 := (hO37 93 (by decide) (by decide) (by decide)).trans h93
          have e6837 := hW37.2.2.1
          have hp3537 : (im37 35).toInt = (h : Int) := by rw [hi37 35 (by decide)]; exact hh
          refine v_i2l C dX9_comesTo_83 rfl ?_
          refine v_topl (fun x38 ex38 => ?_)
          have hx38 : x38.toInt = (YSf md (ic 4).toInt (ic 5).toInt 100) := by rw [ex38]; exact tl_of hall
          refine v_lcmp C dX9_comesTo_84 ?_
          refine v_top (fun x39 ex39 => ?_)
          have hx39 : ((YSf md (ic 4).toInt (ic 5).toInt 100) < Int64.toInt v ∧ x39.toInt = 1) ∨ (Int64.toInt v = (YSf md (ic 4).toInt (ic 5).toInt 100) ∧ x39.toInt = 0) ∨ (Int64.toInt v < (YSf md (ic 4).toInt (ic 5).toInt 100) ∧ x39.toInt = -1) := by rw [ex39]; exact tl_cmp (rfl : Int64.toInt v = _) hx38
          refine b_if_ge C 92 dX9_comesTo_85 (by decide) (rfl : Int32.toInt x39 = _) (fun c40 => ?_) (fun c40 => ?_)
          · refine v_iconst (v := 0) C dX9_comesTo_92 (by decide) ?_
            refine v_goto C 121 dX9_comesTo_93 (by decide) ?_
            refine v_istore (lv' := [(0, .ref (ad 68)), (1, .long v), (3, .int (kd (h - 1))), (4, .int 0)]) C [1, 2, 3, 0] dX9_comesTo_121 (by decide) rfl ?_
            refine v_aload_n C 0 dX9_comesTo_123 rfl rfl ?_
            refine v_getr C 68 dX9_comesTo_124 fX9_100 (by omega) e6837 rfl rfl ?_
            refine v_aload_n C 0 dX9_comesTo_127 rfl rfl ?_
            refine v_geti (v := im37 35) C 68 dX9_comesTo_128 fX9_203 (by omega) e6837 rfl rfl ?_
            refine v_iconst (v := 1) C dX9_comesTo_131 (by decide) ?_
            refine v_isub C dX9_comesTo_132 ?_
            refine v_top (fun x41 ex41 => ?_)
            have hx41 : x41.toInt = ((h : Int) - 1) := by rw [ex41]; exact ti_sub hp3537 (show (1 : Int32).toInt = 1 by decide) (by omega) (by omega)
            refine v_iload C 3 dX9_comesTo_133 rfl ?_
            refine b_if_eq C 143 dX9_comesTo_135 (by decide) (show (0 : Int32).toInt = 0 by decide) (fun c42 => ?_) (fun c42 => absurd c42 (by decide))
            refine v_iconst (v := 0) C dX9_comesTo_143 (by decide) ?_
            refine v_ast C 93 dX9_comesTo_144 (by omega) hE35_93 (ti_in hx41 (by omega) (by omega)) (fun E43 hE43_93 oE43 => ?_)
            rw [ti_cl hx41, show Int.toNat ((h : Int) - 1) = h - 1 by omega] at hE43_93
            have hE43_68 := (oE43 68 (by decide)).trans e6837
            have hE43_92 := (oE43 92 (by decide)).trans hE35_92
            have hW44 := hW37.of (oE43 68 (by decide)) (oE43 69 (by decide)) (oE43 70 (by decide))
            have hR44 := hR37.go (fun j _ _ => oE43 j (by omega))
            have hS44 := hS37.go (fun j _ _ => oE43 j (by omega))
            refine v_iload C 3 dX9_comesTo_145 rfl ?_
            exact v_ret C dX9_comesTo_147 rfl rfl (Or.inr ⟨rfl, by unfold wiK; omega, _, ⟨_, hJ37, hW44, hS44, hE43_93, fun j g0 g1 g2 g3 => ((oE43 j (by omega)).trans (hO37 j (by omega) (by omega) (by omega)))⟩⟩)
          · refine v_iconst (v := 1) C dX9_comesTo_88 (by decide) ?_
            refine v_goto C 121 dX9_comesTo_89 (by decide) ?_
            refine v_istore (lv' := [(0, .ref (ad 68)), (1, .long v), (3, .int (kd (h - 1))), (4, .int 1)]) C [1, 2, 3, 0] dX9_comesTo_121 (by decide) rfl ?_
            refine v_aload_n C 0 dX9_comesTo_123 rfl rfl ?_
            refine v_getr C 68 dX9_comesTo_124 fX9_100 (by omega) e6837 rfl rfl ?_
            refine v_aload_n C 0 dX9_comesTo_127 rfl rfl ?_
            refine v_geti (v := im37 35) C 68 dX9_comesTo_128 fX9_203 (by omega) e6837 rfl rfl ?_
            refine v_iconst (v := 1) C dX9_comesTo_131 (by decide) ?_
            refine v_isub C dX9_comesTo_132 ?_
            refine v_top (fun x45 ex45 => ?_)
            have hx45 : x45.toInt = ((h : Int) - 1) := by rw [ex45]; exact ti_sub hp3537 (show (1 : Int32).toInt = 1 by decide) (by omega) (by omega)
            refine v_iload C 3 dX9_comesTo_133 rfl ?_
            refine b_if_eq C 143 dX9_comesTo_135 (by decide) (show (1 : Int32).toInt = 1 by decide) (fun c46 => absurd c46 (by decide)) (fun c46 => ?_)
            refine v_lload_n C 1 dX9_comesTo_138 rfl rfl ?_
            refine v_l2i C dX9_comesTo_139 rfl ?_
            refine v_top (fun x47 ex47 => ?_)
            have hx47 : x47.toInt = Int64.toInt v := by rw [ex47]; exact tl_i (rfl : Int64.toInt v = _) (by omega) (by omega)
            refine v_goto C 144 dX9_comesTo_140 (by decide) ?_
            refine v_ast C 93 dX9_comesTo_144 (by omega) hE35_93 (ti_in hx45 (by omega) (by omega)) (fun E48 hE48_93 oE48 => ?_)
            rw [ti_cl hx45, show Int.toNat ((h : Int) - 1) = h - 1 by omega] at hE48_93
            have hE48_68 := (oE48 68 (by decide)).trans e6837
            have hE48_92 := (oE48 92 (by decide)).trans hE35_92
            have hW49 := hW37.of (oE48 68 (by decide)) (oE48 69 (by decide)) (oE48 70 (by decide))
            have hR49 := hR37.go (fun j _ _ => oE48 j (by omega))
            have hS49 := hS37.go (fun j _ _ => oE48 j (by omega))
            refine v_iload C 3 dX9_comesTo_145 rfl ?_
            exact v_ret C dX9_comesTo_147 rfl rfl (Or.inl ⟨rfl, by unfold wiK; omega, _, hx47, ⟨_, hJ37, hW49, hS49, hE48_93, fun j g0 g1 g2 g3 => ((oE48 j (by omega)).trans (hO37 j (by omega) (by omega) (by omega)))⟩⟩)
    · refine v_lload_n C 1 dX9_comesTo_43 rfl rfl ?_
      refine v_ldc2 C dX9_comesTo_44 kX9_227 ?_
      refine v_lcmp C dX9_comesTo_47 ?_
      refine v_top (fun x50 ex50 => ?_)
      have hx50 : ((-99999999) < Int64.toInt v ∧ x50.toInt = 1) ∨ (Int64.toInt v = (-99999999) ∧ x50.toInt = 0) ∨ (Int64.toInt v < (-99999999) ∧ x50.toInt = -1) := by rw [ex50]; exact tl_cmp (rfl : Int64.toInt v = _) (show (((-99999999) : Int64)).toInt = (-99999999) by decide)
      refine b_if_lt C 63 dX9_comesTo_48 (by decide) (rfl : Int32.toInt x50 = _) (fun c51 => ?_) (fun c51 => ?_)
      · refine v_iconst (v := 0) C dX9_comesTo_63 (by decide) ?_
        refine v_goto C 121 dX9_comesTo_64 (by decide) ?_
        refine v_istore (lv' := [(0, .ref (ad 68)), (1, .long v), (3, .int (kd (h - 1))), (4, .int 0)]) C [1, 2, 3, 0] dX9_comesTo_121 (by decide) rfl ?_
        refine v_aload_n C 0 dX9_comesTo_123 rfl rfl ?_
        refine v_getr C 68 dX9_comesTo_124 fX9_100 (by omega) h68 rfl rfl ?_
        refine v_aload_n C 0 dX9_comesTo_127 rfl rfl ?_
        refine v_geti (v := im 35) C 68 dX9_comesTo_128 fX9_203 (by omega) h68 rfl rfl ?_
        refine v_iconst (v := 1) C dX9_comesTo_131 (by decide) ?_
        refine v_isub C dX9_comesTo_132 ?_
        refine v_top (fun x52 ex52 => ?_)
        have hx52 : x52.toInt = ((h : Int) - 1) := by rw [ex52]; exact ti_sub hh (show (1 : Int32).toInt = 1 by decide) (by omega) (by omega)
        refine v_iload C 3 dX9_comesTo_133 rfl ?_
        refine b_if_eq C 143 dX9_comesTo_135 (by decide) (show (0 : Int32).toInt = 0 by decide) (fun c53 => ?_) (fun c53 => absurd c53 (by decide))
        refine v_iconst (v := 0) C dX9_comesTo_143 (by decide) ?_
        refine v_ast C 93 dX9_comesTo_144 (by omega) h93 (ti_in hx52 (by omega) (by omega)) (fun E54 hE54_93 oE54 => ?_)
        rw [ti_cl hx52, show Int.toNat ((h : Int) - 1) = h - 1 by omega] at hE54_93
        have hE54_68 := (oE54 68 (by decide)).trans h68
        have hE54_92 := (oE54 92 (by decide)).trans h92
        have hW55 := hW.of (oE54 68 (by decide)) (oE54 69 (by decide)) (oE54 70 (by decide))
        have hR55 := hR.go (fun j _ _ => oE54 j (by omega))
        have hS55 := hS.go (fun j _ _ => oE54 j (by omega))
        refine v_iload C 3 dX9_comesTo_145 rfl ?_
        exact v_ret C dX9_comesTo_147 rfl rfl (Or.inr ⟨rfl, by unfold wiK; omega, _, ⟨_, (fun _ _ => rfl), hW55, hS55, hE54_93, fun j g0 g1 g2 g3 => (oE54 j (by omega))⟩⟩)
      · refine v_lload_n C 1 dX9_comesTo_51 rfl rfl ?_
        refine v_ldc2 C dX9_comesTo_52 kX9_229 ?_
        refine v_lcmp C dX9_comesTo_55 ?_
        refine v_top (fun x56 ex56 => ?_)
        have hx56 : (99999999 < Int64.toInt v ∧ x56.toInt = 1) ∨ (Int64.toInt v = 99999999 ∧ x56.toInt = 0) ∨ (Int64.toInt v < 99999999 ∧ x56.toInt = -1) := by rw [ex56]; exact tl_cmp (rfl : Int64.toInt v = _) (show ((99999999 : Int64)).toInt = 99999999 by decide)
        refine b_if_gt C 63 dX9_comesTo_56 (by decide) (rfl : Int32.toInt x56 = _) (fun c57 => ?_) (fun c57 => ?_)
        · refine v_iconst (v := 0) C dX9_comesTo_63 (by decide) ?_
          refine v_goto C 121 dX9_comesTo_64 (by decide) ?_
          refine v_istore (lv' := [(0, .ref (ad 68)), (1, .long v), (3, .int (kd (h - 1))), (4, .int 0)]) C [1, 2, 3, 0] dX9_comesTo_121 (by decide) rfl ?_
          refine v_aload_n C 0 dX9_comesTo_123 rfl rfl ?_
          refine v_getr C 68 dX9_comesTo_124 fX9_100 (by omega) h68 rfl rfl ?_
          refine v_aload_n C 0 dX9_comesTo_127 rfl rfl ?_
          refine v_geti (v := im 35) C 68 dX9_comesTo_128 fX9_203 (by omega) h68 rfl rfl ?_
          refine v_iconst (v := 1) C dX9_comesTo_131 (by decide) ?_
          refine v_isub C dX9_comesTo_132 ?_
          refine v_top (fun x58 ex58 => ?_)
          have hx58 : x58.toInt = ((h : Int) - 1) := by rw [ex58]; exact ti_sub hh (show (1 : Int32).toInt = 1 by decide) (by omega) (by omega)
          refine v_iload C 3 dX9_comesTo_133 rfl ?_
          refine b_if_eq C 143 dX9_comesTo_135 (by decide) (show (0 : Int32).toInt = 0 by decide) (fun c59 => ?_) (fun c59 => absurd c59 (by decide))
          refine v_iconst (v := 0) C dX9_comesTo_143 (by decide) ?_
          refine v_ast C 93 dX9_comesTo_144 (by omega) h93 (ti_in hx58 (by omega) (by omega)) (fun E60 hE60_93 oE60 => ?_)
          rw [ti_cl hx58, show Int.toNat ((h : Int) - 1) = h - 1 by omega] at hE60_93
          have hE60_68 := (oE60 68 (by decide)).trans h68
          have hE60_92 := (oE60 92 (by decide)).trans h92
          have hW61 := hW.of (oE60 68 (by decide)) (oE60 69 (by decide)) (oE60 70 (by decide))
          have hR61 := hR.go (fun j _ _ => oE60 j (by omega))
          have hS61 := hS.go (fun j _ _ => oE60 j (by omega))
          refine v_iload C 3 dX9_comesTo_145 rfl ?_
          exact v_ret C dX9_comesTo_147 rfl rfl (Or.inr ⟨rfl, by unfold wiK; omega, _, ⟨_, (fun _ _ => rfl), hW61, hS61, hE60_93, fun j g0 g1 g2 g3 => (oE60 j (by omega))⟩⟩)
        · refine v_iconst (v := 1) C dX9_comesTo_59 (by decide) ?_
          refine v_goto C 121 dX9_comesTo_60 (by decide) ?_
          refine v_istore (lv' := [(0, .ref (ad 68)), (1, .long v), (3, .int (kd (h - 1))), (4, .int 1)]) C [1, 2, 3, 0] dX9_comesTo_121 (by decide) rfl ?_
          refine v_aload_n C 0 dX9_comesTo_123 rfl rfl ?_
          refine v_getr C 68 dX9_comesTo_124 fX9_100 (by omega) h68 rfl rfl ?_
          refine v_aload_n C 0 dX9_comesTo_127 rfl rfl ?_
          refine v_geti (v := im 35) C 68 dX9_comesTo_128 fX9_203 (by omega) h68 rfl rfl ?_
          refine v_iconst (v := 1) C dX9_comesTo_131 (by decide) ?_
          refine v_isub C dX9_comesTo_132 ?_
          refine v_top (fun x62 ex62 => ?_)
          have hx62 : x62.toInt = ((h : Int) - 1) := by rw [ex62]; exact ti_sub hh (show (1 : Int32).toInt = 1 by decide) (by omega) (by omega)
          refine v_iload C 3 dX9_comesTo_133 rfl ?_
          refine b_if_eq C 143 dX9_comesTo_135 (by decide) (show (1 : Int32).toInt = 1 by decide) (fun c63 => absurd c63 (by decide)) (fun c63 => ?_)
          refine v_lload_n C 1 dX9_comesTo_138 rfl rfl ?_
          refine v_l2i C dX9_comesTo_139 rfl ?_
          refine v_top (fun x64 ex64 => ?_)
          have hx64 : x64.toInt = Int64.toInt v := by rw [ex64]; exact tl_i (rfl : Int64.toInt v = _) (by omega) (by omega)
          refine v_goto C 144 dX9_comesTo_140 (by decide) ?_
          refine v_ast C 93 dX9_comesTo_144 (by omega) h93 (ti_in hx62 (by omega) (by omega)) (fun E65 hE65_93 oE65 => ?_)
          rw [ti_cl hx62, show Int.toNat ((h : Int) - 1) = h - 1 by omega] at hE65_93
          have hE65_68 := (oE65 68 (by decide)).trans h68
          have hE65_92 := (oE65 92 (by decide)).trans h92
          have hW66 := hW.of (oE65 68 (by decide)) (oE65 69 (by decide)) (oE65 70 (by decide))
          have hR66 := hR.go (fun j _ _ => oE65 j (by omega))
          have hS66 := hS.go (fun j _ _ => oE65 j (by omega))
          refine v_iload C 3 dX9_comesTo_145 rfl ?_
          exact v_ret C dX9_comesTo_147 rfl rfl (Or.inl ⟨rfl, by unfold wiK; omega, _, hx64, ⟨_, (fun _ _ => rfl), hW66, hS66, hE65_93, fun j g0 g1 g2 g3 => (oE65 j (by omega))⟩⟩)
  · refine v_lload_n C 1 dX9_comesTo_16 rfl rfl ?_
    refine v_lconst (v := 0) C dX9_comesTo_17 (by decide) ?_
    refine v_lcmp C dX9_comesTo_18 ?_
    refine v_top (fun x67 ex67 => ?_)
    have hx67 : (0 < Int64.toInt v ∧ x67.toInt = 1) ∨ (Int64.toInt v = 0 ∧ x67.toInt = 0) ∨ (Int64.toInt v < 0 ∧ x67.toInt = -1) := by rw [ex67]; exact tl_cmp (rfl : Int64.toInt v = _) (show ((0 : Int64)).toInt = 0 by decide)
    refine b_if_lt C 34 dX9_comesTo_19 (by decide) (rfl : Int32.toInt x67 = _) (fun c68 => ?_) (fun c68 => ?_)
    · refine v_iconst (v := 0) C dX9_comesTo_34 (by decide) ?_
      refine v_goto C 121 dX9_comesTo_35 (by decide) ?_
      refine v_istore (lv' := [(0, .ref (ad 68)), (1, .long v), (3, .int (kd (h - 1))), (4, .int 0)]) C [1, 2, 3, 0] dX9_comesTo_121 (by decide) rfl ?_
      refine v_aload_n C 0 dX9_comesTo_123 rfl rfl ?_
      refine v_getr C 68 dX9_comesTo_124 fX9_100 (by omega) h68 rfl rfl ?_
      refine v_aload_n C 0 dX9_comesTo_127 rfl rfl ?_
      refine v_geti (v := im 35) C 68 dX9_comesTo_128 fX9_203 (by omega) h68 rfl rfl ?_
      refine v_iconst (v := 1) C dX9_comesTo_131 (by decide) ?_
      refine v_isub C dX9_comesTo_132 ?_
      refine v_top (fun x69 ex69 => ?_)
      have hx69 : x69.toInt = ((h : Int) - 1) := by rw [ex69]; exact ti_sub hh (show (1 : Int32).toInt = 1 by decide) (by omega) (by omega)
      refine v_iload C 3 dX9_comesTo_133 rfl ?_
      refine b_if_eq C 143 dX9_comesTo_135 (by decide) (show (0 : Int32).toInt = 0 by decide) (fun c70 => ?_) (fun c70 => absurd c70 (by decide))
      refine v_iconst (v := 0) C dX9_comesTo_143 (by decide) ?_
      refine v_ast C 93 dX9_comesTo_144 (by omega) h93 (ti_in hx69 (by omega) (by omega)) (fun E71 hE71_93 oE71 => ?_)
      rw [ti_cl hx69, show Int.toNat ((h : Int) - 1) = h - 1 by omega] at hE71_93
      have hE71_68 := (oE71 68 (by decide)).trans h68
      have hE71_92 := (oE71 92 (by decide)).trans h92
      have hW72 := hW.of (oE71 68 (by decide)) (oE71 69 (by decide)) (oE71 70 (by decide))
      have hR72 := hR.go (fun j _ _ => oE71 j (by omega))
      have hS72 := hS.go (fun j _ _ => oE71 j (by omega))
      refine v_iload C 3 dX9_comesTo_145 rfl ?_
      exact v_ret C dX9_comesTo_147 rfl rfl (Or.inr ⟨rfl, by unfold wiK; omega, _, ⟨_, (fun _ _ => rfl), hW72, hS72, hE71_93, fun j g0 g1 g2 g3 => (oE71 j (by omega))⟩⟩)
    · refine v_lload_n C 1 dX9_comesTo_22 rfl rfl ?_
      refine v_ldc2 C dX9_comesTo_23 kX9_225 ?_
      refine v_lcmp C dX9_comesTo_26 ?_
      refine v_top (fun x73 ex73 => ?_)
      have hx73 : (59999999 < Int64.toInt v ∧ x73.toInt = 1) ∨ (Int64.toInt v = 59999999 ∧ x73.toInt = 0) ∨ (Int64.toInt v < 59999999 ∧ x73.toInt = -1) := by rw [ex73]; exact tl_cmp (rfl : Int64.toInt v = _) (show ((59999999 : Int64)).toInt = 59999999 by decide)
      refine b_if_gt C 34 dX9_comesTo_27 (by decide) (rfl : Int32.toInt x73 = _) (fun c74 => ?_) (fun c74 => ?_)
      · refine v_iconst (v := 0) C dX9_comesTo_34 (by decide) ?_
        refine v_goto C 121 dX9_comesTo_35 (by decide) ?_
        refine v_istore (lv' := [(0, .ref (ad 68)), (1, .long v), (3, .int (kd (h - 1))), (4, .int 0)]) C [1, 2, 3, 0] dX9_comesTo_121 (by decide) rfl ?_
        refine v_aload_n C 0 dX9_comesTo_123 rfl rfl ?_
        refine v_getr C 68 dX9_comesTo_124 fX9_100 (by omega) h68 rfl rfl ?_
        refine v_aload_n C 0 dX9_comesTo_127 rfl rfl ?_
        refine v_geti (v := im 35) C 68 dX9_comesTo_128 fX9_203 (by omega) h68 rfl rfl ?_
        refine v_iconst (v := 1) C dX9_comesTo_131 (by decide) ?_
        refine v_isub C dX9_comesTo_132 ?_
        refine v_top (fun x75 ex75 => ?_)
        have hx75 : x75.toInt = ((h : Int) - 1) := by rw [ex75]; exact ti_sub hh (show (1 : Int32).toInt = 1 by decide) (by omega) (by omega)
        refine v_iload C 3 dX9_comesTo_133 rfl ?_
        refine b_if_eq C 143 dX9_comesTo_135 (by decide) (show (0 : Int32).toInt = 0 by decide) (fun c76 => ?_) (fun c76 => absurd c76 (by decide))
        refine v_iconst (v := 0) C dX9_comesTo_143 (by decide) ?_
        refine v_ast C 93 dX9_comesTo_144 (by omega) h93 (ti_in hx75 (by omega) (by omega)) (fun E77 hE77_93 oE77 => ?_)
        rw [ti_cl hx75, show Int.toNat ((h : Int) - 1) = h - 1 by omega] at hE77_93
        have hE77_68 := (oE77 68 (by decide)).trans h68
        have hE77_92 := (oE77 92 (by decide)).trans h92
        have hW78 := hW.of (oE77 68 (by decide)) (oE77 69 (by decide)) (oE77 70 (by decide))
        have hR78 := hR.go (fun j _ _ => oE77 j (by omega))
        have hS78 := hS.go (fun j _ _ => oE77 j (by omega))
        refine v_iload C 3 dX9_comesTo_145 rfl ?_
        exact v_ret C dX9_comesTo_147 rfl rfl (Or.inr ⟨rfl, by unfold wiK; omega, _, ⟨_, (fun _ _ => rfl), hW78, hS78, hE77_93, fun j g0 g1 g2 g3 => (oE77 j (by omega))⟩⟩)
      · refine v_iconst (v := 1) C dX9_comesTo_30 (by decide) ?_
        refine v_goto C 121 dX9_comesTo_31 (by decide) ?_
        refine v_istore (lv' := [(0, .ref (ad 68)), (1, .long v), (3, .int (kd (h - 1))), (4, .int 1)]) C [1, 2, 3, 0] dX9_comesTo_121 (by decide) rfl ?_
        refine v_aload_n C 0 dX9_comesTo_123 rfl rfl ?_
        refine v_getr C 68 dX9_comesTo_124 fX9_100 (by omega) h68 rfl rfl ?_
        refine v_aload_n C 0 dX9_comesTo_127 rfl rfl ?_
        refine v_geti (v := im 35) C 68 dX9_comesTo_128 fX9_203 (by omega) h68 rfl rfl ?_
        refine v_iconst (v := 1) C dX9_comesTo_131 (by decide) ?_
        refine v_isub C dX9_comesTo_132 ?_
        refine v_top (fun x79 ex79 => ?_)
        have hx79 : x79.toInt = ((h : Int) - 1) := by rw [ex79]; exact ti_sub hh (show (1 : Int32).toInt = 1 by decide) (by omega) (by omega)
        refine v_iload C 3 dX9_comesTo_133 rfl ?_
        refine b_if_eq C 143 dX9_comesTo_135 (by decide) (show (1 : Int32).toInt = 1 by decide) (fun c80 => absurd c80 (by decide)) (fun c80 => ?_)
        refine v_lload_n C 1 dX9_comesTo_138 rfl rfl ?_
        refine v_l2i C dX9_comesTo_139 rfl ?_
        refine v_top (fun x81 ex81 => ?_)
        have hx81 : x81.toInt = Int64.toInt v := by rw [ex81]; exact tl_i (rfl : Int64.toInt v = _) (by omega) (by omega)
        refine v_goto C 144 dX9_comesTo_140 (by decide) ?_
        refine v_ast C 93 dX9_comesTo_144 (by omega) h93 (ti_in hx79 (by omega) (by omega)) (fun E82 hE82_93 oE82 => ?_)
        rw [ti_cl hx79, show Int.toNat ((h : Int) - 1) = h - 1 by omega] at hE82_93
        have hE82_68 := (oE82 68 (by decide)).trans h68
        have hE82_92 := (oE82 92 (by decide)).trans h92
        have hW83 := hW.of (oE82 68 (by decide)) (oE82 69 (by decide)) (oE82 70 (by decide))
        have hR83 := hR.go (fun j _ _ => oE82 j (by omega))
        have hS83 := hS.go (fun j _ _ => oE82 j (by omega))
        refine v_iload C 3 dX9_comesTo_145 rfl ?_
        exact v_ret C dX9_comesTo_147 rfl rfl (Or.inl ⟨rfl, by unfold wiK; omega, _, hx81, ⟨_, (fun _ _ => rfl), hW83, hS83, hE82_93, fun j g0 g1 g2 g3 => (oE82 j (by omega))⟩⟩)

set_option maxRecDepth 20000 in
theorem y_does (l : Launch) (G : Gl) (n : Nat) (ad : Nat → Nat) (E : Nat → va_E) (hn : 98 ≤ n) {im ic md : Nat → Int32} (hW : MCal G ad E im ic md) {rf rto ron rat rbe rtd rm fv : Nat → Int32} (hR : ZMr G E rf rto ron rat rbe rtd rm fv) {TT : Nat → TST} (hS : ZMs G E 5 TT) (hTT : ∀ z, z < 5 → TT z = TTz ic md rf rto ron rat rbe rtd rm fv (im 18).toInt z) (hV : ∀ z, z < 5 → RZv ic rf rto ron rat rbe rtd rm fv z) {kd vl : Nat → Int32} (h92 : E 92 = aI G 8 kd) (h93 : E 93 = aI G 8 vl) {h : Nat} (hh : (im 35).toInt = (h : Int)) {fo fx fy : Nat → Int32} (h89 : E 89 = aI G 10 fo) (h90 : E 90 = aI G 10 fx) (h91 : E 91 = aI G 10 fy) {k i1 : Nat} (hk5 : k ≤ 5) (hi1 : i1 < 10) (hop : 0 ≤ (fo i1).toInt ∧ (fo i1).toInt ≤ 11) (hln : okLn (k : Int) (fo i1).toInt (fx i1).toInt (fy i1).toInt) {K K2 : Nat → Int32} {g2 : Int} (hFT : FTs (fo i1).toInt (h : Int) K = some (g2, K2)) (hok : okK (h : Int) K) (hok2 : okK g2 K2) (hsim : simK (h : Int) kd K) {V : Nat → Int} (hoV : okV ic md (h : Int) K V) (hav : ∀ j, j < h → (vl j).toInt = V j) (x : Int32) (m : Int32) (hx : x.toInt = (i1 : Int)) (hm : 0 ≤ m.toInt ∧ m.toInt < 60000000) : CtI l G yX9_does cX9_does 8 .boolean 6 147 (n) ad E [.ref (ad 68), .int x, .int m] (fun r E' => (r = 1 ∧ ∃ (V1 : Nat → Int) (kd1 vl1 : Nat → Int32), VSf ic md TT (fo i1).toInt (fx i1).toInt (fy i1).toInt m.toInt (h : Int) K (K2 (g2 - 1).toNat).toInt V = some V1 ∧ simK g2 kd1 K2 ∧ (∀ j : Nat, (j : Int) < g2 → (vl1 j).toInt = V1 j) ∧ DSt G ad E E' im ic md TT g2 kd1 vl1) ∨ (r = 0 ∧ VSf ic md TT (fo i1).toInt (fx i1).toInt (fy i1).toInt m.toInt (h : Int) K (K2 (g2 - 1).toNat).toInt V = none ∧ ∃ (g1 : Int) (kd1 vl1 : Nat → Int32), DSt G ad E E' im ic md TT g1 kd1 vl1)) := by
  refine CtI.of (by decide) (Nat.le_of_ble_eq_true rfl) (fun X A C => ?_)
  refine v_sub (lv' := [(0, .ref (ad 68)), (1, .int x), (2, .int m)]) [0, 1, 2] rfl ?_
  have hP := hW.2.1
  have h68 := hW.2.2.1
  have hcy := cal_y hP
  have h8T : ∀ z, z < 5 → (TT z).1 ≤ 800 := fun z hz => by rw [hTT z hz]; exact (TTz_ok hP (hV z hz)).2
  have hokT : ∀ z, z < 5 → okT 69300000 (TT z) := fun z hz => by rw [hTT z hz]; exact (TTz_ok hP (hV z hz)).1
  have hh8 := hok.1
  have hg8 := hok2.1
  rcases (show (fo i1).toInt = 0 ∨ (fo i1).toInt = 1 ∨ (fo i1).toInt = 2 ∨ (fo i1).toInt = 3 ∨ (fo i1).toInt = 4 ∨ (fo i1).toInt = 5 ∨ (fo i1).toInt = 6 ∨ (fo i1).toInt = 7 ∨ (fo i1).toInt = 8 ∨ (fo i1).toInt = 9 ∨ (fo i1).toInt = 10 ∨ (fo i1).toInt = 11 by omega) with ho | ho | ho | ho | ho | ho | ho | ho | ho | ho | ho | ho
  · rw [ho] at hFT
    obtain ⟨hg, e2, eK⟩ := FT_0 hFT
    rw [show ((h : Nat) : Int).toNat = h by omega] at eK
    refine v_aload_n C 0 dX9_does_0 rfl rfl ?_
    refine v_geti (v := im 35) C 68 dX9_does_1 fX9_203 (by omega) h68 rfl rfl ?_
    refine v_iconst (v := 1) C dX9_does_4 (by decide) ?_
    refine v_isub C dX9_does_5 ?_
    refine v_top (fun x1 ex1 => ?_)
    have hx1 : x1.toInt = ((h : Int) - 1) := by rw [ex1]; exact ti_sub hh (show (1 : Int32).toInt = 1 by decide) (by omega) (by omega)
    refine v_istore_n (lv' := [(0, .ref (ad 68)), (1, .int x), (2, .int m), (3, .int x1)]) C [1, 2, 3, 0] dX9_does_6 rfl (by decide) rfl ?_
    refine v_iload_n C 3 dX9_does_7 rfl rfl ?_
    refine b_if_lt C 21 dX9_does_8 (by decide) hx1 (fun c2 => ?_) (fun c2 => ?_)
    · refine v_lconst (v := 0) C dX9_does_21 (by decide) ?_
      refine v_lstore (lv' := [(0, .ref (ad 68)), (1, .int x), (2, .int m), (3, .int x1), (4, .long 0)]) C [1, 2, 3, 4, 0] dX9_does_22 (by decide) rfl ?_
      refine v_aload_n C 0 dX9_does_24 rfl rfl ?_
      refine v_getr C 68 dX9_does_25 fX9_88 (by omega) h68 rfl rfl ?_
      refine v_iload_n C 1 dX9_does_28 rfl rfl ?_
      refine v_ald (v := fo i1) C 89 dX9_does_29 (by omega) h89 (ti_in hx (by omega) (by omega)) (by rw [ti_cl hx, show Int.toNat (i1 : Int) = i1 by omega]) ?_
      refine v_tableIn (off := 58) C 88 dX9_does_30 (by omega) (by omega) (by rw [ho]; rfl) (by decide) ?_
      refine v_aload_n C 0 dX9_does_88 rfl rfl ?_
      refine v_dup C dX9_does_89 rfl ?_
      refine v_geti (v := im 35) C 68 dX9_does_90 fX9_203 (by omega) h68 rfl rfl ?_
      refine v_iconst (v := 1) C dX9_does_93 (by decide) ?_
      refine v_iadd C dX9_does_94 ?_
      refine v_top (fun x3 ex3 => ?_)
      have hx3 : x3.toInt = ((h : Int) + 1) := by rw [ex3]; exact ti_add hh (show (1 : Int32).toInt = 1 by decide) (by omega) (by omega)
      refine v_puti C 68 dX9_does_95 fX9_203 (by omega) h68 rfl rfl rfl rfl (fun E4 hE4_68 oE4 => ?_)
      have hE4_92 := (oE4 92 (by decide)).trans h92
      have hE4_93 := (oE4 93 (by decide)).trans h93
      have hE4_89 := (oE4 89 (by decide)).trans h89
      have hE4_90 := (oE4 90 (by decide)).trans h90
      have hE4_91 := (oE4 91 (by decide)).trans h91
      have hW5 := hW.up (k := 35) (by decide) hE4_68 (fun j hj => oE4 j hj)
      have hT5 : ∀ z, z < 5 → TT z = TTz ic md rf rto ron rat rbe rtd rm fv ((va_up im 35 x3) 18).toInt z := hTT
      have hI5 : ∀ q, q ≠ 7 → q ≠ 35 → (va_up im 35 x3) q = im q := fun q g1 g2 => (if_neg (by omega)).trans ((fun _ _ _ => rfl) q g1 g2)
      have hR5 := hR.go (fun j _ _ => oE4 j (by omega))
      have hS5 := hS.go (fun j _ _ => oE4 j (by omega))
      refine v_aload_n C 0 dX9_does_98 rfl rfl ?_
      refine v_getr C 68 dX9_does_99 fX9_97 (by omega) hE4_68 rfl rfl ?_
      refine v_aload_n C 0 dX9_does_102 rfl rfl ?_
      refine v_geti (v := x3) C 68 dX9_does_103 fX9_203 (by omega) hE4_68 rfl rfl ?_
      refine v_iconst (v := 1) C dX9_does_106 (by decide) ?_
      refine v_isub C dX9_does_107 ?_
      refine v_top (fun x6 ex6 => ?_)
      have hx6 : x6.toInt = (((h : Int) + 1) - 1) := by rw [ex6]; exact ti_sub hx3 (show (1 : Int32).toInt = 1 by decide) (by omega) (by omega)
      refine v_iconst (v := 0) C dX9_does_108 (by decide) ?_
      refine v_ast C 92 dX9_does_109 (by omega) hE4_92 (ti_in hx6 (by omega) (by omega)) (fun E7 hE7_92 oE7 => ?_)
      rw [ti_cl hx6, show Int.toNat (((h : Int) + 1) - 1) = h by omega] at hE7_92
      have hE7_68 := (oE7 68 (by decide)).trans hE4_68
      have hE7_93 := (oE7 93 (by decide)).trans hE4_93
      have hE7_89 := (oE7 89 (by decide)).trans hE4_89
      have hE7_90 := (oE7 90 (by decide)).trans hE4_90
      have hE7_91 := (oE7 91 (by decide)).trans hE4_91
      have hW8 := hW5.of (oE7 68 (by decide)) (oE7 69 (by decide)) (oE7 70 (by decide))
      have hR8 := hR5.go (fun j _ _ => oE7 j (by omega))
      have hS8 := hS5.go (fun j _ _ => oE7 j (by omega))
      refine v_aload_n C 0 dX9_does_110 rfl rfl ?_
      refine v_getr C 68 dX9_does_111 fX9_100 (by omega) hE7_68 rfl rfl ?_
      refine v_aload_n C 0 dX9_does_114 rfl rfl ?_
      refine v_geti (v := x3) C 68 dX9_does_115 fX9_203 (by omega) hE7_68 rfl rfl ?_
      refine v_iconst (v := 1) C dX9_does_118 (by decide) ?_
      refine v_isub C dX9_does_119 ?_
      refine v_top (fun x9 ex9 => ?_)
      have hx9 : x9.toInt = (((h : Int) + 1) - 1) := by rw [ex9]; exact ti_sub hx3 (show (1 : Int32).toInt = 1 by decide) (by omega) (by omega)
      refine v_iload_n C 2 dX9_does_120 rfl rfl ?_
      refine v_ast C 93 dX9_does_121 (by omega) hE7_93 (ti_in hx9 (by omega) (by omega)) (fun E10 hE10_93 oE10 => ?_)
      rw [ti_cl hx9, show Int.toNat (((h : Int) + 1) - 1) = h by omega] at hE10_93
      have hE10_68 := (oE10 68 (by decide)).trans hE7_68
      have hE10_92 := (oE10 92 (by decide)).trans hE7_92
      have hE10_89 := (oE10 89 (by decide)).trans hE7_89
      have hE10_90 := (oE10 90 (by decide)).trans hE7_90
      have hE10_91 := (oE10 91 (by decide)).trans hE7_91
      have hW11 := hW8.of (oE10 68 (by decide)) (oE10 69 (by decide)) (oE10 70 (by decide))
      have hR11 := hR8.go (fun j _ _ => oE10 j (by omega))
      have hS11 := hS8.go (fun j _ _ => oE10 j (by omega))
      refine v_iconst (v := 1) C dX9_does_122 (by decide) ?_
      exact v_ret C dX9_does_123 rfl rfl (Or.inl ⟨rfl, updI V h m.toInt, _, _, (by rw [ho, VS_0, show ((h : Nat) : Int).toNat = h by omega]), (by rw [e2, eK]; exact simK_up hsim rfl (fun j q1 q2 => by omega)), (fun j hj => av_up hav rfl (fun j q1 q2 => by omega) j (show j < h + 1 by omega)), ⟨_, hI5, (show Int32.toInt x3 = g2 by have := hx3; omega), hW11, hS11, hE10_92, hE10_93, fun j g1 g2 g3 g4 g5 => ((oE10 j (by omega)).trans ((oE7 j (by omega)).trans (oE4 j (by omega))))⟩⟩)
    · refine v_aload_n C 0 dX9_does_11 rfl rfl ?_
      refine v_getr C 68 dX9_does_12 fX9_100 (by omega) h68 rfl rfl ?_
      refine v_iload_n C 3 dX9_does_15 rfl rfl ?_
      refine v_ald (v := vl (h - 1)) C 93 dX9_does_16 (by omega) h93 (ti_in hx1 (by omega) (by omega)) (by rw [ti_cl hx1, show Int.toNat ((h : Int) - 1) = h - 1 by omega]) ?_
      refine v_i2l C dX9_does_17 rfl ?_
      refine v_topl (fun x12 ex12 => ?_)
      have hx12 : x12.toInt = (vl (h - 1)).toInt := by rw [ex12]; exact tl_of (rfl : Int32.toInt (vl (h - 1)) = _)
      refine v_goto C 22 dX9_does_18 (by decide) ?_
      refine v_lstore (lv' := [(0, .ref (ad 68)), (1, .int x), (2, .int m), (3, .int x1), (4, .long x12)]) C [1, 2, 3, 4, 0] dX9_does_22 (by decide) rfl ?_
      refine v_aload_n C 0 dX9_does_24 rfl rfl ?_
      refine v_getr C 68 dX9_does_25 fX9_88 (by omega) h68 rfl rfl ?_
      refine v_iload_n C 1 dX9_does_28 rfl rfl ?_
      refine v_ald (v := fo i1) C 89 dX9_does_29 (by omega) h89 (ti_in hx (by omega) (by omega)) (by rw [ti_cl hx, show Int.toNat (i1 : Int) = i1 by omega]) ?_
      refine v_tableIn (off := 58) C 88 dX9_does_30 (by omega) (by omega) (by rw [ho]; rfl) (by decide) ?_
      refine v_aload_n C 0 dX9_does_88 rfl rfl ?_
      refine v_dup C dX9_does_89 rfl ?_
      refine v_geti (v := im 35) C 68 dX9_does_90 fX9_203 (by omega) h68 rfl rfl ?_
      refine v_iconst (v := 1) C dX9_does_93 (by decide) ?_
      refine v_iadd C dX9_does_94 ?_
      refine v_top (fun x13 ex13 => ?_)
      have hx13 : x13.toInt = ((h : Int) + 1) := by rw [ex13]; exact ti_add hh (show (1 : Int32).toInt = 1 by decide) (by omega) (by omega)
      refine v_puti C 68 dX9_does_95 fX9_203 (by omega) h68 rfl rfl rfl rfl (fun E14 hE14_68 oE14 => ?_)
      have hE14_92 := (oE14 92 (by decide)).trans h92
      have hE14_93 := (oE14 93 (by decide)).trans h93
      have hE14_89 := (oE14 89 (by decide)).trans h89
      have hE14_90 := (oE14 90 (by decide)).trans h90
      have hE14_91 := (oE14 91 (by decide)).trans h91
      have hW15 := hW.up (k := 35) (by decide) hE14_68 (fun j hj => oE14 j hj)
      have hT15 : ∀ z, z < 5 → TT z = TTz ic md rf rto ron rat rbe rtd rm fv ((va_up im 35 x13) 18).toInt z := hTT
      have hI15 : ∀ q, q ≠ 7 → q ≠ 35 → (va_up im 35 x13) q = im q := fun q g1 g2 => (if_neg (by omega)).trans ((fun _ _ _ => rfl) q g1 g2)
      have hR15 := hR.go (fun j _ _ => oE14 j (by omega))
      have hS15 := hS.go (fun j _ _ => oE14 j (by omega))
      refine v_aload_n C 0 dX9_does_98 rfl rfl ?_
      refine v_getr C 68 dX9_does_99 fX9_97 (by omega) hE14_68 rfl rfl ?_
      refine v_aload_n C 0 dX9_does_102 rfl rfl ?_
      refine v_geti (v := x13) C 68 dX9_does_103 fX9_203 (by omega) hE14_68 rfl rfl ?_
      refine v_iconst (v := 1) C dX9_does_106 (by decide) ?_
      refine v_isub C dX9_does_107 ?_
      refine v_top (fun x16 ex16 => ?_)
      have hx16 : x16.toInt = (((h : Int) + 1) - 1) := by rw [ex16]; exact ti_sub hx13 (show (1 : Int32).toInt = 1 by decide) (by omega) (by omega)
      refine v_iconst (v := 0) C dX9_does_108 (by decide) ?_
      refine v_ast C 92 dX9_does_109 (by omega) hE14_92 (ti_in hx16 (by omega) (by omega)) (fun E17 hE17_92 oE17 => ?_)
      rw [ti_cl hx16, show Int.toNat (((h : Int) + 1) - 1) = h by omega] at hE17_92
      have hE17_68 := (oE17 68 (by decide)).trans hE14_68
      have hE17_93 := (oE17 93 (by decide)).trans hE14_93
      have hE17_89 := (oE17 89 (by decide)).trans hE14_89
      have hE17_90 := (oE17 90 (by decide)).trans hE14_90
      have hE17_91 := (oE17 91 (by decide)).trans hE14_91
      have hW18 := hW15.of (oE17 68 (by decide)) (oE17 69 (by decide)) (oE17 70 (by decide))
      have hR18 := hR15.go (fun j _ _ => oE17 j (by omega))
      have hS18 := hS15.go (fun j _ _ => oE17 j (by omega))
      refine v_aload_n C 0 dX9_does_110 rfl rfl ?_
      refine v_getr C 68 dX9_does_111 fX9_100 (by omega) hE17_68 rfl rfl ?_
      refine v_aload_n C 0 dX9_does_114 rfl rfl ?_
      refine v_geti (v := x13) C 68 dX9_does_115 fX9_203 (by omega) hE17_68 rfl rfl ?_
      refine v_iconst (v := 1) C dX9_does_118 (by decide) ?_
      refine v_isub C dX9_does_119 ?_
      refine v_top (fun x19 ex19 => ?_)
      have hx19 : x19.toInt = (((h : Int) + 1) - 1) := by rw [ex19]; exact ti_sub hx13 (show (1 : Int32).toInt = 1 by decide) (by omega) (by omega)
      refine v_iload_n C 2 dX9_does_120 rfl rfl ?_
      refine v_ast C 93 dX9_does_121 (by omega) hE17_93 (ti_in hx19 (by omega) (by omega)) (fun E20 hE20_93 oE20 => ?_)
      rw [ti_cl hx19, show Int.toNat (((h : Int) + 1) - 1) = h by omega] at hE20_93
      have hE20_68 := (oE20 68 (by decide)).trans hE17_68
      have hE20_92 := (oE20 92 (by decide)).trans hE17_92
      have hE20_89 := (oE20 89 (by decide)).trans hE17_89
      have hE20_90 := (oE20 90 (by decide)).trans hE17_90
      have hE20_91 := (oE20 91 (by decide)).trans hE17_91
      have hW21 := hW18.of (oE20 68 (by decide)) (oE20 69 (by decide)) (oE20 70 (by decide))
      have hR21 := hR18.go (fun j _ _ => oE20 j (by omega))
      have hS21 := hS18.go (fun j _ _ => oE20 j (by omega))
      refine v_iconst (v := 1) C dX9_does_122 (by decide) ?_
      exact v_ret C dX9_does_123 rfl rfl (Or.inl ⟨rfl, updI V h m.toInt, _, _, (by rw [ho, VS_0, show ((h : Nat) : Int).toNat = h by omega]), (by rw [e2, eK]; exact simK_up hsim rfl (fun j q1 q2 => by omega)), (fun j hj => av_up hav rfl (fun j q1 q2 => by omega) j (show j < h + 1 by omega)), ⟨_, hI15, (show Int32.toInt x13 = g2 by have := hx13; omega), hW21, hS21, hE20_92, hE20_93, fun j g1 g2 g3 g4 g5 => ((oE20 j (by omega)).trans ((oE17 j (by omega)).trans (oE14 j (by omega))))⟩⟩)
  · rw [ho] at hFT
    obtain ⟨hg, e2, eK⟩ := FT_1 hFT
    rw [show ((h : Int) - 1).toNat = h - 1 by omega] at eK
    rw [show ((h : Int) - 1).toNat = h - 1 by omega] at hg
    have ha1 := hav (h - 1) (by omega)
    have hw1 := ti_wi hP (hoV (h - 1) (by omega))
    have hk1 := simK_K hsim (j := h - 1) (by omega)
    have hv1 := hoV (h - 1) (by omega)
    unfold wiK at hv1
    unfold okLn at hln
    obtain ⟨zz, hz⟩ : ∃ q : Nat, (fx i1).toInt = (q : Int) := ⟨(fx i1).toInt.toNat, by omega⟩
    have hzz : zz < 5 := by omega
    have hzt : (fx i1).toInt.toNat = zz := by omega
    refine v_aload_n C 0 dX9_does_0 rfl rfl ?_
    refine v_geti (v := im 35) C 68 dX9_does_1 fX9_203 (by omega) h68 rfl rfl ?_
    refine v_iconst (v := 1) C dX9_does_4 (by decide) ?_
    refine v_isub C dX9_does_5 ?_
    refine v_top (fun x22 ex22 => ?_)
    have hx22 : x22.toInt = ((h : Int) - 1) := by rw [ex22]; exact ti_sub hh (show (1 : Int32).toInt = 1 by decide) (by omega) (by omega)
    refine v_istore_n (lv' := [(0, .ref (ad 68)), (1, .int x), (2, .int m), (3, .int x22)]) C [1, 2, 3, 0] dX9_does_6 rfl (by decide) rfl ?_
    refine v_iload_n C 3 dX9_does_7 rfl rfl ?_
    refine b_if_lt C 21 dX9_does_8 (by decide) hx22 (fun c23 => by exfalso; omega) (fun c23 => ?_)
    refine v_aload_n C 0 dX9_does_11 rfl rfl ?_
    refine v_getr C 68 dX9_does_12 fX9_100 (by omega) h68 rfl rfl ?_
    refine v_iload_n C 3 dX9_does_15 rfl rfl ?_
    refine v_ald (v := vl (h - 1)) C 93 dX9_does_16 (by omega) h93 (ti_in hx22 (by omega) (by omega)) (by rw [ti_cl hx22, show Int.toNat ((h : Int) - 1) = h - 1 by omega]) ?_
    refine v_i2l C dX9_does_17 rfl ?_
    refine v_topl (fun x24 ex24 => ?_)
    have hx24 : x24.toInt = (V (h - 1)) := by rw [ex24]; exact tl_of ha1
    refine v_goto C 22 dX9_does_18 (by decide) ?_
    refine v_lstore (lv' := [(0, .ref (ad 68)), (1, .int x), (2, .int m), (3, .int x22), (4, .long x24)]) C [1, 2, 3, 4, 0] dX9_does_22 (by decide) rfl ?_
    refine v_aload_n C 0 dX9_does_24 rfl rfl ?_
    refine v_getr C 68 dX9_does_25 fX9_88 (by omega) h68 rfl rfl ?_
    refine v_iload_n C 1 dX9_does_28 rfl rfl ?_
    refine v_ald (v := fo i1) C 89 dX9_does_29 (by omega) h89 (ti_in hx (by omega) (by omega)) (by rw [ti_cl hx, show Int.toNat (i1 : Int) = i1 by omega]) ?_
    refine v_tableIn (off := 94) C 124 dX9_does_30 (by omega) (by omega) (by rw [ho]; rfl) (by decide) ?_
    refine v_aload_n C 0 dX9_does_124 rfl rfl ?_
    refine v_getr C 68 dX9_does_125 fX9_97 (by omega) h68 rfl rfl ?_
    refine v_iload_n C 3 dX9_does_128 rfl rfl ?_
    refine v_iconst (v := 1) C dX9_does_129 (by decide) ?_
    refine v_ast C 92 dX9_does_130 (by omega) h92 (ti_in hx22 (by omega) (by omega)) (fun E25 hE25_92 oE25 => ?_)
    rw [ti_cl hx22, show Int.toNat ((h : Int) - 1) = h - 1 by omega] at hE25_92
    have hE25_68 := (oE25 68 (by decide)).trans h68
    have hE25_93 := (oE25 93 (by decide)).trans h93
    have hE25_89 := (oE25 89 (by decide)).trans h89
    have hE25_90 := (oE25 90 (by decide)).trans h90
    have hE25_91 := (oE25 91 (by decide)).trans h91
    have hW26 := hW.of (oE25 68 (by decide)) (oE25 69 (by decide)) (oE25 70 (by decide))
    have hR26 := hR.go (fun j _ _ => oE25 j (by omega))
    have hS26 := hS.go (fun j _ _ => oE25 j (by omega))
    refine v_aload_n C 0 dX9_does_131 rfl rfl ?_
    refine v_lload C 4 dX9_does_132 rfl ?_
    refine v_aload_n C 0 dX9_does_134 rfl rfl ?_
    refine v_aload_n C 0 dX9_does_135 rfl rfl ?_
    refine v_getr C 68 dX9_does_136 fX9_91 (by omega) hE25_68 rfl rfl ?_
    refine v_iload_n C 1 dX9_does_139 rfl rfl ?_
    refine v_ald (v := fx i1) C 90 dX9_does_140 (by omega) hE25_90 (ti_in hx (by omega) (by omega)) (by rw [ti_cl hx, show Int.toNat (i1 : Int) = i1 by omega]) ?_
    refine v_lload C 4 dX9_does_141 rfl ?_
    refine v_l2i C dX9_does_143 rfl ?_
    refine v_top (fun x27 ex27 => ?_)
    have hx27 : x27.toInt = (V (h - 1)) := by rw [ex27]; exact tl_i hx24 (by omega) (by omega)
    refine v_cVi C dX9_does_144 lX9_182 mX9_offsetAt 68 (by omega) hE25_68 (by decide) rfl (y_offsetAt l G n ad _ hn hW26 hR26 hS26 (k := 5) (zz := zz) hzz (by omega) hTT hV (T := TT zz) rfl (c := (TT zz).1) rfl (fx i1) x27 hz) ⟨by decide, by decide⟩ rfl (Nat.le_of_ble_eq_true rfl) ⟨Nat.zero_le _, Nat.zero_le _⟩ (fun r28 E29 hq30 => ?_)
    obtain ⟨hF31, jt, hTj, hrv⟩ := hq30
    rw [ofT_tt hTj, hx27] at hrv
    have hob := ofT_bd (m := V (h - 1)) (hokT zz hzz)
    obtain ⟨im32, hi32, hW32, hS32, hO32⟩ := id hF31
    have hR32 := hR26.go (fun j h1 h2 => hO32 j (by omega) (by omega) (by omega))
    have hT32 : ∀ z, z < 5 → TT z = TTz ic md rf rto ron rat rbe rtd rm fv (im32 18).toInt z := fun z hz => by rw [hi32 18 (by decide)]; exact hTT z hz
    have hI32 : ∀ q, q ≠ 7 → q ≠ 35 → im32 q = im q := fun q g1 g2 => (hi32 q g1).trans ((fun _ _ _ => rfl) q g1 g2)
    have hJ32 : ∀ q, q ≠ 7 → im32 q = im q := fun q g1 => (hi32 q g1).trans ((fun _ _ => rfl) q g1)
    have hE29_92 := (hO32 92 (by decide) (by decide) (by decide)).trans hE25_92
    have hE29_93 := (hO32 93 (by decide) (by decide) (by decide)).trans hE25_93
    have hE29_89 := (hO32 89 (by decide) (by decide) (by decide)).trans hE25_89
    have hE29_90 := (hO32 90 (by decide) (by decide) (by decide)).trans hE25_90
    have hE29_91 := (hO32 91 (by decide) (by decide) (by decide)).trans hE25_91
    have e6832 := hW32.2.2.1
    have hp3532 : (im32 35).toInt = (h : Int) := by rw [hi32 35 (by decide)]; exact hh
    refine v_i2l C dX9_does_147 rfl ?_
    refine v_topl (fun x33 ex33 => ?_)
    have hx33 : x33.toInt = (ofT (TT zz) (V (h - 1))) := by rw [ex33]; exact tl_of hrv
    refine v_ladd C dX9_does_148 ?_
    refine v_topl (fun x34 ex34 => ?_)
    have hx34 : x34.toInt = ((V (h - 1)) + (ofT (TT zz) (V (h - 1)))) := by rw [ex34]; exact tl_add hx24 hx33 (by omega) (by omega)
    have hs2 : simK g2 (upd kd (h - 1) 1) K2 := by rw [e2, eK]; exact simK_up hsim rfl (fun j q1 q2 => by omega)
    have hkq : ((upd kd (h - 1) 1) (h - 1)).toInt = (K2 (g2 - 1).toNat).toInt := by rw [show (g2 - 1).toNat = h - 1 by omega]; exact simK_K hs2 (by omega)
    have hkb := hok2.2 (g2 - 1).toNat (by omega)
    have hval : ((V (h - 1)) + (ofT (TT zz) (V (h - 1)))) = chV ic md TT 1 (fx i1).toInt (fy i1).toInt (K (h - 1)).toInt (V (h - 1)) := by unfold chV; (repeat first | rw [if_pos (by omega)] | rw [if_neg (by omega)]); rw [hzt]; try omega
    refine v_cVi C dX9_does_149 lX9_242 mX9_comesTo 68 (by omega) e6832 (by decide) rfl (y_comesTo l G n ad _ hn hW32 hR32 hS32 hT32 hV hE29_92 hE29_93 (h := h) (show Int32.toInt (im32 35) = ((h : Nat) : Int) by have := hp3532; omega) (by omega) (by omega) (by rw [show h - 1 = h - 1 by omega, hkq]; exact hkb) x34) ⟨by decide, by decide⟩ rfl (Nat.le_of_ble_eq_true rfl) ⟨Nat.zero_le _, Nat.zero_le _⟩ (fun r35 E36 hq37 => ?_)
    rw [hkq, hx34, hval] at hq37
    rcases hq37 with ⟨rfl, hwi, xw, hxw, im9, hi9, hW9, hS9, h93n, hO9⟩ | ⟨rfl, hwi, vl9, im9, hi9, hW9, hS9, h93n, hO9⟩
    · exact v_ret C dX9_does_152 rfl rfl (Or.inl ⟨rfl, updI V (h - 1) (chV ic md TT 1 (fx i1).toInt (fy i1).toInt (K (h - 1)).toInt (V (h - 1))), _, _, (by rw [ho, VS_1 (by rw [show ((h : Int) - 1).toNat = h - 1 by omega]; exact hwi), show ((h : Int) - 1).toNat = h - 1 by omega]), hs2, (fun j hj => av_up hav hxw (fun j q1 q2 => by omega) j (show j < h by omega)), ⟨im9, (fun q g1 g2 => (hi9 q g1).trans (hI32 q g1 g2)), (show (im9 35).toInt = g2 by rw [hi9 35 (by decide)]; exact (show Int32.toInt (im32 35) = g2 by have := hp3532; omega)), hW9, hS9, (hO9 92 (by decide) (by decide) (by decide) (by decide)).trans hE29_92, h93n, fun j g1 g2 g3 g4 g5 => (hO9 j g1 g2 g3 g5).trans (((hO32 j (by omega) (by omega) (by omega)).trans (oE25 j (by omega))))⟩⟩)
    · exact v_ret C dX9_does_152 rfl rfl (Or.inr ⟨rfl, (by rw [ho, VS_1n (by rw [show ((h : Int) - 1).toNat = h - 1 by omega]; exact hwi)]), _, _, _, ⟨im9, (fun q g1 g2 => (hi9 q g1).trans (hI32 q g1 g2)), (show (im9 35).toInt = g2 by rw [hi9 35 (by decide)]; exact (show Int32.toInt (im32 35) = g2 by have := hp3532; omega)), hW9, hS9, (hO9 92 (by decide) (by decide) (by decide) (by decide)).trans hE29_92, h93n, fun j g1 g2 g3 g4 g5 => (hO9 j g1 g2 g3 g5).trans (((hO32 j (by omega) (by omega) (by omega)).trans (oE25 j (by omega))))⟩⟩)
  · rw [ho] at hFT
    obtain ⟨hg, e2, eK⟩ := FT_2 hFT
    rw [show ((h : Int) - 1).toNat = h - 1 by omega] at eK
    rw [show ((h : Int) - 1).toNat = h - 1 by omega] at hg
    have ha1 := hav (h - 1) (by omega)
    have hw1 := ti_wi hP (hoV (h - 1) (by omega))
    have hk1 := simK_K hsim (j := h - 1) (by omega)
    have hv1 := hoV (h - 1) (by omega)
    unfold wiK at hv1
    refine v_aload_n C 0 dX9_does_0 rfl rfl ?_
    refine v_geti (v := im 35) C 68 dX9_does_1 fX9_203 (by omega) h68 rfl rfl ?_
    refine v_iconst (v := 1) C dX9_does_4 (by decide) ?_
    refine v_isub C dX9_does_5 ?_
    refine v_top (fun x38 ex38 => ?_)
    have hx38 : x38.toInt = ((h : Int) - 1) := by rw [ex38]; exact ti_sub hh (show (1 : Int32).toInt = 1 by decide) (by omega) (by omega)
    refine v_istore_n (lv' := [(0, .ref (ad 68)), (1, .int x), (2, .int m), (3, .int x38)]) C [1, 2, 3, 0] dX9_does_6 rfl (by decide) rfl ?_
    refine v_iload_n C 3 dX9_does_7 rfl rfl ?_
    refine b_if_lt C 21 dX9_does_8 (by decide) hx38 (fun c39 => by exfalso; omega) (fun c39 => ?_)
    refine v_aload_n C 0 dX9_does_11 rfl rfl ?_
    refine v_getr C 68 dX9_does_12 fX9_100 (by omega) h68 rfl rfl ?_
    refine v_iload_n C 3 dX9_does_15 rfl rfl ?_
    refine v_ald (v := vl (h - 1)) C 93 dX9_does_16 (by omega) h93 (ti_in hx38 (by omega) (by omega)) (by rw [ti_cl hx38, show Int.toNat ((h : Int) - 1) = h - 1 by omega]) ?_
    refine v_i2l C dX9_does_17 rfl ?_
    refine v_topl (fun x40 ex40 => ?_)
    have hx40 : x40.toInt = (V (h - 1)) := by rw [ex40]; exact tl_of ha1
    refine v_goto C 22 dX9_does_18 (by decide) ?_
    refine v_lstore (lv' := [(0, .ref (ad 68)), (1, .int x), (2, .int m), (3, .int x38), (4, .long x40)]) C [1, 2, 3, 4, 0] dX9_does_22 (by decide) rfl ?_
    refine v_aload_n C 0 dX9_does_24 rfl rfl ?_
    refine v_getr C 68 dX9_does_25 fX9_88 (by omega) h68 rfl rfl ?_
    refine v_iload_n C 1 dX9_does_28 rfl rfl ?_
    refine v_ald (v := fo i1) C 89 dX9_does_29 (by omega) h89 (ti_in hx (by omega) (by omega)) (by rw [ti_cl hx, show Int.toNat (i1 : Int) = i1 by omega]) ?_
    refine v_tableIn (off := 123) C 153 dX9_does_30 (by omega) (by omega) (by rw [ho]; rfl) (by decide) ?_
    refine v_aload_n C 0 dX9_does_153 rfl rfl ?_
    refine v_getr C 68 dX9_does_154 fX9_97 (by omega) h68 rfl rfl ?_
    refine v_iload_n C 3 dX9_does_157 rfl rfl ?_
    refine v_iconst (v := 2) C dX9_does_158 (by decide) ?_
    refine v_ast C 92 dX9_does_159 (by omega) h92 (ti_in hx38 (by omega) (by omega)) (fun E41 hE41_92 oE41 => ?_)
    rw [ti_cl hx38, show Int.toNat ((h : Int) - 1) = h - 1 by omega] at hE41_92
    have hE41_68 := (oE41 68 (by decide)).trans h68
    have hE41_93 := (oE41 93 (by decide)).trans h93
    have hE41_89 := (oE41 89 (by decide)).trans h89
    have hE41_90 := (oE41 90 (by decide)).trans h90
    have hE41_91 := (oE41 91 (by decide)).trans h91
    have hW42 := hW.of (oE41 68 (by decide)) (oE41 69 (by decide)) (oE41 70 (by decide))
    have hR42 := hR.go (fun j _ _ => oE41 j (by omega))
    have hS42 := hS.go (fun j _ _ => oE41 j (by omega))
    refine v_aload_n C 0 dX9_does_160 rfl rfl ?_
    refine v_lload C 4 dX9_does_161 rfl ?_
    refine v_ldc2 C dX9_does_163 kX9_231 ?_
    refine v_ldiv C dX9_does_166 (by decide) ?_
    refine v_topl (fun x43 ex43 => ?_)
    have hx43 : x43.toInt = ((V (h - 1)) / 1440) := by rw [ex43]; exact tl_div hx40 (show ((1440 : Int64)).toInt = 1440 by decide) (by omega) (by omega)
    have hs2 : simK g2 (upd kd (h - 1) 2) K2 := by rw [e2, eK]; exact simK_up hsim rfl (fun j q1 q2 => by omega)
    have hkq : ((upd kd (h - 1) 2) (h - 1)).toInt = (K2 (g2 - 1).toNat).toInt := by rw [show (g2 - 1).toNat = h - 1 by omega]; exact simK_K hs2 (by omega)
    have hkb := hok2.2 (g2 - 1).toNat (by omega)
    have hval : ((V (h - 1)) / 1440) = chV ic md TT 2 (fx i1).toInt (fy i1).toInt (K (h - 1)).toInt (V (h - 1)) := by unfold chV; (repeat first | rw [if_pos (by omega)] | rw [if_neg (by omega)]); try omega
    refine v_cVi C dX9_does_167 lX9_242 mX9_comesTo 68 (by omega) hE41_68 (by decide) rfl (y_comesTo l G n ad _ hn hW42 hR42 hS42 hTT hV hE41_92 hE41_93 (h := h) (show Int32.toInt (im 35) = ((h : Nat) : Int) by have := hh; omega) (by omega) (by omega) (by rw [show h - 1 = h - 1 by omega, hkq]; exact hkb) x43) ⟨by decide, by decide⟩ rfl (Nat.le_of_ble_eq_true rfl) ⟨Nat.zero_le _, Nat.zero_le _⟩ (fun r44 E45 hq46 => ?_)
    rw [hkq, hx43, hval] at hq46
    rcases hq46 with ⟨rfl, hwi, xw, hxw, im9, hi9, hW9, hS9, h93n, hO9⟩ | ⟨rfl, hwi, vl9, im9, hi9, hW9, hS9, h93n, hO9⟩
    · exact v_ret C dX9_does_170 rfl rfl (Or.inl ⟨rfl, updI V (h - 1) (chV ic md TT 2 (fx i1).toInt (fy i1).toInt (K (h - 1)).toInt (V (h - 1))), _, _, (by rw [ho, VS_2 (by rw [show ((h : Int) - 1).toNat = h - 1 by omega]; exact hwi), show ((h : Int) - 1).toNat = h - 1 by omega]), hs2, (fun j hj => av_up hav hxw (fun j q1 q2 => by omega) j (show j < h by omega)), ⟨im9, (fun q g1 g2 => (hi9 q g1).trans ((fun _ _ _ => rfl) q g1 g2)), (show (im9 35).toInt = g2 by rw [hi9 35 (by decide)]; exact (show Int32.toInt (im 35) = g2 by have := hh; omega)), hW9, hS9, (hO9 92 (by decide) (by decide) (by decide) (by decide)).trans hE41_92, h93n, fun j g1 g2 g3 g4 g5 => (hO9 j g1 g2 g3 g5).trans ((oE41 j (by omega)))⟩⟩)
    · exact v_ret C dX9_does_170 rfl rfl (Or.inr ⟨rfl, (by rw [ho, VS_2n (by rw [show ((h : Int) - 1).toNat = h - 1 by omega]; exact hwi)]), _, _, _, ⟨im9, (fun q g1 g2 => (hi9 q g1).trans ((fun _ _ _ => rfl) q g1 g2)), (show (im9 35).toInt = g2 by rw [hi9 35 (by decide)]; exact (show Int32.toInt (im 35) = g2 by have := hh; omega)), hW9, hS9, (hO9 92 (by decide) (by decide) (by decide) (by decide)).trans hE41_92, h93n, fun j g1 g2 g3 g4 g5 => (hO9 j g1 g2 g3 g5).trans ((oE41 j (by omega)))⟩⟩)
  · rw [ho] at hFT
    obtain ⟨hg, e2, eK⟩ := FT_3 hFT
    rw [show ((h : Int) - 1).toNat = h - 1 by omega] at eK
    rw [show ((h : Int) - 1).toNat = h - 1 by omega] at hg
    have ha1 := hav (h - 1) (by omega)
    have hw1 := ti_wi hP (hoV (h - 1) (by omega))
    have hk1 := simK_K hsim (j := h - 1) (by omega)
    have hv1 := hoV (h - 1) (by omega)
    unfold wiK at hv1
    unfold okLn at hln
    refine v_aload_n C 0 dX9_does_0 rfl rfl ?_
    refine v_geti (v := im 35) C 68 dX9_does_1 fX9_203 (by omega) h68 rfl rfl ?_
    refine v_iconst (v := 1) C dX9_does_4 (by decide) ?_
    refine v_isub C dX9_does_5 ?_
    refine v_top (fun x47 ex47 => ?_)
    have hx47 : x47.toInt = ((h : Int) - 1) := by rw [ex47]; exact ti_sub hh (show (1 : Int32).toInt = 1 by decide) (by omega) (by omega)
    refine v_istore_n (lv' := [(0, .ref (ad 68)), (1, .int x), (2, .int m), (3, .int x47)]) C [1, 2, 3, 0] dX9_does_6 rfl (by decide) rfl ?_
    refine v_iload_n C 3 dX9_does_7 rfl rfl ?_
    refine b_if_lt C 21 dX9_does_8 (by decide) hx47 (fun c48 => by exfalso; omega) (fun c48 => ?_)
    refine v_aload_n C 0 dX9_does_11 rfl rfl ?_
    refine v_getr C 68 dX9_does_12 fX9_100 (by omega) h68 rfl rfl ?_
    refine v_iload_n C 3 dX9_does_15 rfl rfl ?_
    refine v_ald (v := vl (h - 1)) C 93 dX9_does_16 (by omega) h93 (ti_in hx47 (by omega) (by omega)) (by rw [ti_cl hx47, show Int.toNat ((h : Int) - 1) = h - 1 by omega]) ?_
    refine v_i2l C dX9_does_17 rfl ?_
    refine v_topl (fun x49 ex49 => ?_)
    have hx49 : x49.toInt = (V (h - 1)) := by rw [ex49]; exact tl_of ha1
    refine v_goto C 22 dX9_does_18 (by decide) ?_
    refine v_lstore (lv' := [(0, .ref (ad 68)), (1, .int x), (2, .int m), (3, .int x47), (4, .long x49)]) C [1, 2, 3, 4, 0] dX9_does_22 (by decide) rfl ?_
    refine v_aload_n C 0 dX9_does_24 rfl rfl ?_
    refine v_getr C 68 dX9_does_25 fX9_88 (by omega) h68 rfl rfl ?_
    refine v_iload_n C 1 dX9_does_28 rfl rfl ?_
    refine v_ald (v := fo i1) C 89 dX9_does_29 (by omega) h89 (ti_in hx (by omega) (by omega)) (by rw [ti_cl hx, show Int.toNat (i1 : Int) = i1 by omega]) ?_
    refine v_tableIn (off := 141) C 171 dX9_does_30 (by omega) (by omega) (by rw [ho]; rfl) (by decide) ?_
    refine v_aload_n C 0 dX9_does_171 rfl rfl ?_
    refine v_getr C 68 dX9_does_172 fX9_97 (by omega) h68 rfl rfl ?_
    refine v_iload_n C 3 dX9_does_175 rfl rfl ?_
    refine v_iconst (v := 1) C dX9_does_176 (by decide) ?_
    refine v_ast C 92 dX9_does_177 (by omega) h92 (ti_in hx47 (by omega) (by omega)) (fun E50 hE50_92 oE50 => ?_)
    rw [ti_cl hx47, show Int.toNat ((h : Int) - 1) = h - 1 by omega] at hE50_92
    have hE50_68 := (oE50 68 (by decide)).trans h68
    have hE50_93 := (oE50 93 (by decide)).trans h93
    have hE50_89 := (oE50 89 (by decide)).trans h89
    have hE50_90 := (oE50 90 (by decide)).trans h90
    have hE50_91 := (oE50 91 (by decide)).trans h91
    have hW51 := hW.of (oE50 68 (by decide)) (oE50 69 (by decide)) (oE50 70 (by decide))
    have hR51 := hR.go (fun j _ _ => oE50 j (by omega))
    have hS51 := hS.go (fun j _ _ => oE50 j (by omega))
    refine v_aload_n C 0 dX9_does_178 rfl rfl ?_
    refine v_lload C 4 dX9_does_179 rfl ?_
    refine v_ldc2 C dX9_does_181 kX9_231 ?_
    refine v_lmul C dX9_does_184 ?_
    refine v_topl (fun x52 ex52 => ?_)
    have hx52 : x52.toInt = ((V (h - 1)) * 1440) := by rw [ex52]; exact tl_mul hx49 (show ((1440 : Int64)).toInt = 1440 by decide) (by omega) (by omega)
    refine v_aload_n C 0 dX9_does_185 rfl rfl ?_
    refine v_getr C 68 dX9_does_186 fX9_91 (by omega) hE50_68 rfl rfl ?_
    refine v_iload_n C 1 dX9_does_189 rfl rfl ?_
    refine v_ald (v := fx i1) C 90 dX9_does_190 (by omega) hE50_90 (ti_in hx (by omega) (by omega)) (by rw [ti_cl hx, show Int.toNat (i1 : Int) = i1 by omega]) ?_
    refine v_i2l C dX9_does_191 rfl ?_
    refine v_topl (fun x53 ex53 => ?_)
    have hx53 : x53.toInt = (fx i1).toInt := by rw [ex53]; exact tl_of (rfl : Int32.toInt (fx i1) = _)
    refine v_ladd C dX9_does_192 ?_
    refine v_topl (fun x54 ex54 => ?_)
    have hx54 : x54.toInt = (((V (h - 1)) * 1440) + (fx i1).toInt) := by rw [ex54]; exact tl_add hx52 hx53 (by omega) (by omega)
    have hs2 : simK g2 (upd kd (h - 1) 1) K2 := by rw [e2, eK]; exact simK_up hsim rfl (fun j q1 q2 => by omega)
    have hkq : ((upd kd (h - 1) 1) (h - 1)).toInt = (K2 (g2 - 1).toNat).toInt := by rw [show (g2 - 1).toNat = h - 1 by omega]; exact simK_K hs2 (by omega)
    have hkb := hok2.2 (g2 - 1).toNat (by omega)
    have hval : (((V (h - 1)) * 1440) + (fx i1).toInt) = chV ic md TT 3 (fx i1).toInt (fy i1).toInt (K (h - 1)).toInt (V (h - 1)) := by unfold chV; (repeat first | rw [if_pos (by omega)] | rw [if_neg (by omega)]); try omega
    refine v_cVi C dX9_does_193 lX9_242 mX9_comesTo 68 (by omega) hE50_68 (by decide) rfl (y_comesTo l G n ad _ hn hW51 hR51 hS51 hTT hV hE50_92 hE50_93 (h := h) (show Int32.toInt (im 35) = ((h : Nat) : Int) by have := hh; omega) (by omega) (by omega) (by rw [show h - 1 = h - 1 by omega, hkq]; exact hkb) x54) ⟨by decide, by decide⟩ rfl (Nat.le_of_ble_eq_true rfl) ⟨Nat.zero_le _, Nat.zero_le _⟩ (fun r55 E56 hq57 => ?_)
    rw [hkq, hx54, hval] at hq57
    rcases hq57 with ⟨rfl, hwi, xw, hxw, im9, hi9, hW9, hS9, h93n, hO9⟩ | ⟨rfl, hwi, vl9, im9, hi9, hW9, hS9, h93n, hO9⟩
    · exact v_ret C dX9_does_196 rfl rfl (Or.inl ⟨rfl, updI V (h - 1) (chV ic md TT 3 (fx i1).toInt (fy i1).toInt (K (h - 1)).toInt (V (h - 1))), _, _, (by rw [ho, VS_3 (by rw [show ((h : Int) - 1).toNat = h - 1 by omega]; exact hwi), show ((h : Int) - 1).toNat = h - 1 by omega]), hs2, (fun j hj => av_up hav hxw (fun j q1 q2 => by omega) j (show j < h by omega)), ⟨im9, (fun q g1 g2 => (hi9 q g1).trans ((fun _ _ _ => rfl) q g1 g2)), (show (im9 35).toInt = g2 by rw [hi9 35 (by decide)]; exact (show Int32.toInt (im 35) = g2 by have := hh; omega)), hW9, hS9, (hO9 92 (by decide) (by decide) (by decide) (by decide)).trans hE50_92, h93n, fun j g1 g2 g3 g4 g5 => (hO9 j g1 g2 g3 g5).trans ((oE50 j (by omega)))⟩⟩)
    · exact v_ret C dX9_does_196 rfl rfl (Or.inr ⟨rfl, (by rw [ho, VS_3n (by rw [show ((h : Int) - 1).toNat = h - 1 by omega]; exact hwi)]), _, _, _, ⟨im9, (fun q g1 g2 => (hi9 q g1).trans ((fun _ _ _ => rfl) q g1 g2)), (show (im9 35).toInt = g2 by rw [hi9 35 (by decide)]; exact (show Int32.toInt (im 35) = g2 by have := hh; omega)), hW9, hS9, (hO9 92 (by decide) (by decide) (by decide) (by decide)).trans hE50_92, h93n, fun j g1 g2 g3 g4 g5 => (hO9 j g1 g2 g3 g5).trans ((oE50 j (by omega)))⟩⟩)
  · rw [ho] at hFT
    obtain ⟨hg, e2, eK⟩ := FT_4 hFT
    rw [show ((h : Int) - 1).toNat = h - 1 by omega] at eK
    rw [show ((h : Int) - 1).toNat = h - 1 by omega] at hg
    have ha1 := hav (h - 1) (by omega)
    have hw1 := ti_wi hP (hoV (h - 1) (by omega))
    have hk1 := simK_K hsim (j := h - 1) (by omega)
    have hv1 := hoV (h - 1) (by omega)
    unfold wiK at hv1
    unfold okLn at hln
    obtain ⟨zz, hz⟩ : ∃ q : Nat, (fx i1).toInt = (q : Int) := ⟨(fx i1).toInt.toNat, by omega⟩
    have hzz : zz < 5 := by omega
    have hzt : (fx i1).toInt.toNat = zz := by omega
    refine v_aload_n C 0 dX9_does_0 rfl rfl ?_
    refine v_geti (v := im 35) C 68 dX9_does_1 fX9_203 (by omega) h68 rfl rfl ?_
    refine v_iconst (v := 1) C dX9_does_4 (by decide) ?_
    refine v_isub C dX9_does_5 ?_
    refine v_top (fun x58 ex58 => ?_)
    have hx58 : x58.toInt = ((h : Int) - 1) := by rw [ex58]; exact ti_sub hh (show (1 : Int32).toInt = 1 by decide) (by omega) (by omega)
    refine v_istore_n (lv' := [(0, .ref (ad 68)), (1, .int x), (2, .int m), (3, .int x58)]) C [1, 2, 3, 0] dX9_does_6 rfl (by decide) rfl ?_
    refine v_iload_n C 3 dX9_does_7 rfl rfl ?_
    refine b_if_lt C 21 dX9_does_8 (by decide) hx58 (fun c59 => by exfalso; omega) (fun c59 => ?_)
    refine v_aload_n C 0 dX9_does_11 rfl rfl ?_
    refine v_getr C 68 dX9_does_12 fX9_100 (by omega) h68 rfl rfl ?_
    refine v_iload_n C 3 dX9_does_15 rfl rfl ?_
    refine v_ald (v := vl (h - 1)) C 93 dX9_does_16 (by omega) h93 (ti_in hx58 (by omega) (by omega)) (by rw [ti_cl hx58, show Int.toNat ((h : Int) - 1) = h - 1 by omega]) ?_
    refine v_i2l C dX9_does_17 rfl ?_
    refine v_topl (fun x60 ex60 => ?_)
    have hx60 : x60.toInt = (V (h - 1)) := by rw [ex60]; exact tl_of ha1
    refine v_goto C 22 dX9_does_18 (by decide) ?_
    refine v_lstore (lv' := [(0, .ref (ad 68)), (1, .int x), (2, .int m), (3, .int x58), (4, .long x60)]) C [1, 2, 3, 4, 0] dX9_does_22 (by decide) rfl ?_
    refine v_aload_n C 0 dX9_does_24 rfl rfl ?_
    refine v_getr C 68 dX9_does_25 fX9_88 (by omega) h68 rfl rfl ?_
    refine v_iload_n C 1 dX9_does_28 rfl rfl ?_
    refine v_ald (v := fo i1) C 89 dX9_does_29 (by omega) h89 (ti_in hx (by omega) (by omega)) (by rw [ti_cl hx, show Int.toNat (i1 : Int) = i1 by omega]) ?_
    refine v_tableIn (off := 167) C 197 dX9_does_30 (by omega) (by omega) (by rw [ho]; rfl) (by decide) ?_
    refine v_aload_n C 0 dX9_does_197 rfl rfl ?_
    refine v_getr C 68 dX9_does_198 fX9_97 (by omega) h68 rfl rfl ?_
    refine v_iload_n C 3 dX9_does_201 rfl rfl ?_
    refine v_iconst (v := 0) C dX9_does_202 (by decide) ?_
    refine v_ast C 92 dX9_does_203 (by omega) h92 (ti_in hx58 (by omega) (by omega)) (fun E61 hE61_92 oE61 => ?_)
    rw [ti_cl hx58, show Int.toNat ((h : Int) - 1) = h - 1 by omega] at hE61_92
    have hE61_68 := (oE61 68 (by decide)).trans h68
    have hE61_93 := (oE61 93 (by decide)).trans h93
    have hE61_89 := (oE61 89 (by decide)).trans h89
    have hE61_90 := (oE61 90 (by decide)).trans h90
    have hE61_91 := (oE61 91 (by decide)).trans h91
    have hW62 := hW.of (oE61 68 (by decide)) (oE61 69 (by decide)) (oE61 70 (by decide))
    have hR62 := hR.go (fun j _ _ => oE61 j (by omega))
    have hS62 := hS.go (fun j _ _ => oE61 j (by omega))
    refine v_aload_n C 0 dX9_does_204 rfl rfl ?_
    refine v_aload_n C 0 dX9_does_205 rfl rfl ?_
    refine v_aload_n C 0 dX9_does_206 rfl rfl ?_
    refine v_getr C 68 dX9_does_207 fX9_91 (by omega) hE61_68 rfl rfl ?_
    refine v_iload_n C 1 dX9_does_210 rfl rfl ?_
    refine v_ald (v := fx i1) C 90 dX9_does_211 (by omega) hE61_90 (ti_in hx (by omega) (by omega)) (by rw [ti_cl hx, show Int.toNat (i1 : Int) = i1 by omega]) ?_
    refine v_lload C 4 dX9_does_212 rfl ?_
    refine v_l2i C dX9_does_214 rfl ?_
    refine v_top (fun x63 ex63 => ?_)
    have hx63 : x63.toInt = (V (h - 1)) := by rw [ex63]; exact tl_i hx60 (by omega) (by omega)
    refine v_aload_n C 0 dX9_does_215 rfl rfl ?_
    refine v_getr C 68 dX9_does_216 fX9_94 (by omega) hE61_68 rfl rfl ?_
    refine v_iload_n C 1 dX9_does_219 rfl rfl ?_
    refine v_ald (v := fy i1) C 91 dX9_does_220 (by omega) hE61_91 (ti_in hx (by omega) (by omega)) (by rw [ti_cl hx, show Int.toNat (i1 : Int) = i1 by omega]) ?_
    refine v_cVi C dX9_does_221 lX9_246 mX9_turned 68 (by omega) hE61_68 (by decide) rfl (y_turned l G n ad _ hn hW62 hR62 hS62 hTT hV hzz (fx i1) x63 (fy i1) hz (by omega) (by omega)) ⟨by decide, by decide⟩ rfl (Nat.le_of_ble_eq_true rfl) ⟨Nat.zero_le _, Nat.zero_le _⟩ (fun r64 E65 hq66 => ?_)
    obtain ⟨hrv, hF67⟩ := hq66
    rw [hx63] at hrv
    obtain ⟨im68, hi68, hW68, hS68, hO68⟩ := id hF67
    have hR68 := hR62.go (fun j h1 h2 => hO68 j (by omega) (by omega) (by omega))
    have hT68 : ∀ z, z < 5 → TT z = TTz ic md rf rto ron rat rbe rtd rm fv (im68 18).toInt z := fun z hz => by rw [hi68 18 (by decide)]; exact hTT z hz
    have hI68 : ∀ q, q ≠ 7 → q ≠ 35 → im68 q = im q := fun q g1 g2 => (hi68 q g1).trans ((fun _ _ _ => rfl) q g1 g2)
    have hJ68 : ∀ q, q ≠ 7 → im68 q = im q := fun q g1 => (hi68 q g1).trans ((fun _ _ => rfl) q g1)
    have hE65_92 := (hO68 92 (by decide) (by decide) (by decide)).trans hE61_92
    have hE65_93 := (hO68 93 (by decide) (by decide) (by decide)).trans hE61_93
    have hE65_89 := (hO68 89 (by decide) (by decide) (by decide)).trans hE61_89
    have hE65_90 := (hO68 90 (by decide) (by decide) (by decide)).trans hE61_90
    have hE65_91 := (hO68 91 (by decide) (by decide) (by decide)).trans hE61_91
    have e6868 := hW68.2.2.1
    have hp3568 : (im68 35).toInt = (h : Int) := by rw [hi68 35 (by decide)]; exact hh
    refine v_i2l C dX9_does_224 rfl ?_
    refine v_topl (fun x69 ex69 => ?_)
    have hx69 : x69.toInt = (trT (TT zz) (V (h - 1)) (fy i1).toInt) := by rw [ex69]; exact tl_of hrv
    have hs2 : simK g2 (upd kd (h - 1) 0) K2 := by rw [e2, eK]; exact simK_up hsim rfl (fun j q1 q2 => by omega)
    have hkq : ((upd kd (h - 1) 0) (h - 1)).toInt = (K2 (g2 - 1).toNat).toInt := by rw [show (g2 - 1).toNat = h - 1 by omega]; exact simK_K hs2 (by omega)
    have hkb := hok2.2 (g2 - 1).toNat (by omega)
    have hval : (trT (TT zz) (V (h - 1)) (fy i1).toInt) = chV ic md TT 4 (fx i1).toInt (fy i1).toInt (K (h - 1)).toInt (V (h - 1)) := by unfold chV; (repeat first | rw [if_pos (by omega)] | rw [if_neg (by omega)]); rw [hzt]; try omega
    refine v_cVi C dX9_does_225 lX9_242 mX9_comesTo 68 (by omega) e6868 (by decide) rfl (y_comesTo l G n ad _ hn hW68 hR68 hS68 hT68 hV hE65_92 hE65_93 (h := h) (show Int32.toInt (im68 35) = ((h : Nat) : Int) by have := hp3568; omega) (by omega) (by omega) (by rw [show h - 1 = h - 1 by omega, hkq]; exact hkb) x69) ⟨by decide, by decide⟩ rfl (Nat.le_of_ble_eq_true rfl) ⟨Nat.zero_le _, Nat.zero_le _⟩ (fun r70 E71 hq72 => ?_)
    rw [hkq, hx69, hval] at hq72
    rcases hq72 with ⟨rfl, hwi, xw, hxw, im9, hi9, hW9, hS9, h93n, hO9⟩ | ⟨rfl, hwi, vl9, im9, hi9, hW9, hS9, h93n, hO9⟩
    · exact v_ret C dX9_does_228 rfl rfl (Or.inl ⟨rfl, updI V (h - 1) (chV ic md TT 4 (fx i1).toInt (fy i1).toInt (K (h - 1)).toInt (V (h - 1))), _, _, (by rw [ho, VS_4 (by rw [show ((h : Int) - 1).toNat = h - 1 by omega]; exact hwi), show ((h : Int) - 1).toNat = h - 1 by omega]), hs2, (fun j hj => av_up hav hxw (fun j q1 q2 => by omega) j (show j < h by omega)), ⟨im9, (fun q g1 g2 => (hi9 q g1).trans (hI68 q g1 g2)), (show (im9 35).toInt = g2 by rw [hi9 35 (by decide)]; exact (show Int32.toInt (im68 35) = g2 by have := hp3568; omega)), hW9, hS9, (hO9 92 (by decide) (by decide) (by decide) (by decide)).trans hE65_92, h93n, fun j g1 g2 g3 g4 g5 => (hO9 j g1 g2 g3 g5).trans (((hO68 j (by omega) (by omega) (by omega)).trans (oE61 j (by omega))))⟩⟩)
    · exact v_ret C dX9_does_228 rfl rfl (Or.inr ⟨rfl, (by rw [ho, VS_4n (by rw [show ((h : Int) - 1).toNat = h - 1 by omega]; exact hwi)]), _, _, _, ⟨im9, (fun q g1 g2 => (hi9 q g1).trans (hI68 q g1 g2)), (show (im9 35).toInt = g2 by rw [hi9 35 (by decide)]; exact (show Int32.toInt (im68 35) = g2 by have := hp3568; omega)), hW9, hS9, (hO9 92 (by decide) (by decide) (by decide) (by decide)).trans hE65_92, h93n, fun j g1 g2 g3 g4 g5 => (hO9 j g1 g2 g3 g5).trans (((hO68 j (by omega) (by omega) (by omega)).trans (oE61 j (by omega))))⟩⟩)
  · rw [ho] at hFT
    obtain ⟨hg, e2, eK⟩ := FT_5 hFT
    rw [show ((h : Int) - 1).toNat = h - 1 by omega] at hg
    have ha1 := hav (h - 1) (by omega)
    have hw1 := ti_wi hP (hoV (h - 1) (by omega))
    have hk1 := simK_K hsim (j := h - 1) (by omega)
    have hv1 := hoV (h - 1) (by omega)
    unfold wiK at hv1
    unfold okLn at hln
    refine v_aload_n C 0 dX9_does_0 rfl rfl ?_
    refine v_geti (v := im 35) C 68 dX9_does_1 fX9_203 (by omega) h68 rfl rfl ?_
    refine v_iconst (v := 1) C dX9_does_4 (by decide) ?_
    refine v_isub C dX9_does_5 ?_
    refine v_top (fun x73 ex73 => ?_)
    have hx73 : x73.toInt = ((h : Int) - 1) := by rw [ex73]; exact ti_sub hh (show (1 : Int32).toInt = 1 by decide) (by omega) (by omega)
    refine v_istore_n (lv' := [(0, .ref (ad 68)), (1, .int x), (2, .int m), (3, .int x73)]) C [1, 2, 3, 0] dX9_does_6 rfl (by decide) rfl ?_
    refine v_iload_n C 3 dX9_does_7 rfl rfl ?_
    refine b_if_lt C 21 dX9_does_8 (by decide) hx73 (fun c74 => by exfalso; omega) (fun c74 => ?_)
    refine v_aload_n C 0 dX9_does_11 rfl rfl ?_
    refine v_getr C 68 dX9_does_12 fX9_100 (by omega) h68 rfl rfl ?_
    refine v_iload_n C 3 dX9_does_15 rfl rfl ?_
    refine v_ald (v := vl (h - 1)) C 93 dX9_does_16 (by omega) h93 (ti_in hx73 (by omega) (by omega)) (by rw [ti_cl hx73, show Int.toNat ((h : Int) - 1) = h - 1 by omega]) ?_
    refine v_i2l C dX9_does_17 rfl ?_
    refine v_topl (fun x75 ex75 => ?_)
    have hx75 : x75.toInt = (V (h - 1)) := by rw [ex75]; exact tl_of ha1
    refine v_goto C 22 dX9_does_18 (by decide) ?_
    refine v_lstore (lv' := [(0, .ref (ad 68)), (1, .int x), (2, .int m), (3, .int x73), (4, .long x75)]) C [1, 2, 3, 4, 0] dX9_does_22 (by decide) rfl ?_
    refine v_aload_n C 0 dX9_does_24 rfl rfl ?_
    refine v_getr C 68 dX9_does_25 fX9_88 (by omega) h68 rfl rfl ?_
    refine v_iload_n C 1 dX9_does_28 rfl rfl ?_
    refine v_ald (v := fo i1) C 89 dX9_does_29 (by omega) h89 (ti_in hx (by omega) (by omega)) (by rw [ti_cl hx, show Int.toNat (i1 : Int) = i1 by omega]) ?_
    refine v_tableIn (off := 199) C 229 dX9_does_30 (by omega) (by omega) (by rw [ho]; rfl) (by decide) ?_
    refine v_aload_n C 0 dX9_does_229 rfl rfl ?_
    refine v_lload C 4 dX9_does_230 rfl ?_
    refine v_aload_n C 0 dX9_does_232 rfl rfl ?_
    refine v_getr C 68 dX9_does_233 fX9_91 (by omega) h68 rfl rfl ?_
    refine v_iload_n C 1 dX9_does_236 rfl rfl ?_
    refine v_ald (v := fx i1) C 90 dX9_does_237 (by omega) h90 (ti_in hx (by omega) (by omega)) (by rw [ti_cl hx, show Int.toNat (i1 : Int) = i1 by omega]) ?_
    refine v_i2l C dX9_does_238 rfl ?_
    refine v_topl (fun x76 ex76 => ?_)
    have hx76 : x76.toInt = (fx i1).toInt := by rw [ex76]; exact tl_of (rfl : Int32.toInt (fx i1) = _)
    refine v_ladd C dX9_does_239 ?_
    refine v_topl (fun x77 ex77 => ?_)
    have hx77 : x77.toInt = ((V (h - 1)) + (fx i1).toInt) := by rw [ex77]; exact tl_add hx75 hx76 (by omega) (by omega)
    have hs2 : simK g2 kd K2 := by rw [e2, eK]; exact hsim
    have hkq : (kd (h - 1)).toInt = (K2 (g2 - 1).toNat).toInt := by rw [show (g2 - 1).toNat = h - 1 by omega]; exact simK_K hs2 (by omega)
    have hkb := hok2.2 (g2 - 1).toNat (by omega)
    have hval : ((V (h - 1)) + (fx i1).toInt) = chV ic md TT 5 (fx i1).toInt (fy i1).toInt (K (h - 1)).toInt (V (h - 1)) := by unfold chV; (repeat first | rw [if_pos (by omega)] | rw [if_neg (by omega)]); try omega
    refine v_cVi C dX9_does_240 lX9_242 mX9_comesTo 68 (by omega) h68 (by decide) rfl (y_comesTo l G n ad _ hn hW hR hS hTT hV h92 h93 (h := h) (show Int32.toInt (im 35) = ((h : Nat) : Int) by have := hh; omega) (by omega) (by omega) (by rw [show h - 1 = h - 1 by omega, hkq]; exact hkb) x77) ⟨by decide, by decide⟩ rfl (Nat.le_of_ble_eq_true rfl) ⟨Nat.zero_le _, Nat.zero_le _⟩ (fun r78 E79 hq80 => ?_)
    rw [hkq, hx77, hval] at hq80
    rcases hq80 with ⟨rfl, hwi, xw, hxw, im9, hi9, hW9, hS9, h93n, hO9⟩ | ⟨rfl, hwi, vl9, im9, hi9, hW9, hS9, h93n, hO9⟩
    · exact v_ret C dX9_does_243 rfl rfl (Or.inl ⟨rfl, updI V (h - 1) (chV ic md TT 5 (fx i1).toInt (fy i1).toInt (K (h - 1)).toInt (V (h - 1))), _, _, (by rw [ho, VS_5 (by rw [show ((h : Int) - 1).toNat = h - 1 by omega]; exact hwi), show ((h : Int) - 1).toNat = h - 1 by omega]), hs2, (fun j hj => av_up hav hxw (fun j q1 q2 => by omega) j (show j < h by omega)), ⟨im9, (fun q g1 g2 => (hi9 q g1).trans ((fun _ _ _ => rfl) q g1 g2)), (show (im9 35).toInt = g2 by rw [hi9 35 (by decide)]; exact (show Int32.toInt (im 35) = g2 by have := hh; omega)), hW9, hS9, (hO9 92 (by decide) (by decide) (by decide) (by decide)).trans h92, h93n, fun j g1 g2 g3 g4 g5 => (hO9 j g1 g2 g3 g5).trans (rfl)⟩⟩)
    · exact v_ret C dX9_does_243 rfl rfl (Or.inr ⟨rfl, (by rw [ho, VS_5n (by rw [show ((h : Int) - 1).toNat = h - 1 by omega]; exact hwi)]), _, _, _, ⟨im9, (fun q g1 g2 => (hi9 q g1).trans ((fun _ _ _ => rfl) q g1 g2)), (show (im9 35).toInt = g2 by rw [hi9 35 (by decide)]; exact (show Int32.toInt (im 35) = g2 by have := hh; omega)), hW9, hS9, (hO9 92 (by decide) (by decide) (by decide) (by decide)).trans h92, h93n, fun j g1 g2 g3 g4 g5 => (hO9 j g1 g2 g3 g5).trans (rfl)⟩⟩)
  · rw [ho] at hFT
    obtain ⟨hg, e2, eK⟩ := FT_6 hFT
    rw [show ((h : Int) - 1).toNat = h - 1 by omega] at hg
    have ha1 := hav (h - 1) (by omega)
    have hw1 := ti_wi hP (hoV (h - 1) (by omega))
    have hk1 := simK_K hsim (j := h - 1) (by omega)
    have hv1 := hoV (h - 1) (by omega)
    unfold wiK at hv1
    unfold okLn at hln
    refine v_aload_n C 0 dX9_does_0 rfl rfl ?_
    refine v_geti (v := im 35) C 68 dX9_does_1 fX9_203 (by omega) h68 rfl rfl ?_
    refine v_iconst (v := 1) C dX9_does_4 (by decide) ?_
    refine v_isub C dX9_does_5 ?_
    refine v_top (fun x81 ex81 => ?_)
    have hx81 : x81.toInt = ((h : Int) - 1) := by rw [ex81]; exact ti_sub hh (show (1 : Int32).toInt = 1 by decide) (by omega) (by omega)
    refine v_istore_n (lv' := [(0, .ref (ad 68)), (1, .int x), (2, .int m), (3, .int x81)]) C [1, 2, 3, 0] dX9_does_6 rfl (by decide) rfl ?_
    refine v_iload_n C 3 dX9_does_7 rfl rfl ?_
    refine b_if_lt C 21 dX9_does_8 (by decide) hx81 (fun c82 => by exfalso; omega) (fun c82 => ?_)
    refine v_aload_n C 0 dX9_does_11 rfl rfl ?_
    refine v_getr C 68 dX9_does_12 fX9_100 (by omega) h68 rfl rfl ?_
    refine v_iload_n C 3 dX9_does_15 rfl rfl ?_
    refine v_ald (v := vl (h - 1)) C 93 dX9_does_16 (by omega) h93 (ti_in hx81 (by omega) (by omega)) (by rw [ti_cl hx81, show Int.toNat ((h : Int) - 1) = h - 1 by omega]) ?_
    refine v_i2l C dX9_does_17 rfl ?_
    refine v_topl (fun x83 ex83 => ?_)
    have hx83 : x83.toInt = (V (h - 1)) := by rw [ex83]; exact tl_of ha1
    refine v_goto C 22 dX9_does_18 (by decide) ?_
    refine v_lstore (lv' := [(0, .ref (ad 68)), (1, .int x), (2, .int m), (3, .int x81), (4, .long x83)]) C [1, 2, 3, 4, 0] dX9_does_22 (by decide) rfl ?_
    refine v_aload_n C 0 dX9_does_24 rfl rfl ?_
    refine v_getr C 68 dX9_does_25 fX9_88 (by omega) h68 rfl rfl ?_
    refine v_iload_n C 1 dX9_does_28 rfl rfl ?_
    refine v_ald (v := fo i1) C 89 dX9_does_29 (by omega) h89 (ti_in hx (by omega) (by omega)) (by rw [ti_cl hx, show Int.toNat (i1 : Int) = i1 by omega]) ?_
    refine v_tableIn (off := 214) C 244 dX9_does_30 (by omega) (by omega) (by rw [ho]; rfl) (by decide) ?_
    refine v_aload_n C 0 dX9_does_244 rfl rfl ?_
    refine v_lload C 4 dX9_does_245 rfl ?_
    refine v_aload_n C 0 dX9_does_247 rfl rfl ?_
    refine v_getr C 68 dX9_does_248 fX9_91 (by omega) h68 rfl rfl ?_
    refine v_iload_n C 1 dX9_does_251 rfl rfl ?_
    refine v_ald (v := fx i1) C 90 dX9_does_252 (by omega) h90 (ti_in hx (by omega) (by omega)) (by rw [ti_cl hx, show Int.toNat (i1 : Int) = i1 by omega]) ?_
    refine v_i2l C dX9_does_253 rfl ?_
    refine v_topl (fun x84 ex84 => ?_)
    have hx84 : x84.toInt = (fx i1).toInt := by rw [ex84]; exact tl_of (rfl : Int32.toInt (fx i1) = _)
    refine v_aload_n C 0 dX9_does_254 rfl rfl ?_
    refine v_getr C 68 dX9_does_255 fX9_97 (by omega) h68 rfl rfl ?_
    refine v_iload_n C 3 dX9_does_258 rfl rfl ?_
    refine v_ald (v := kd (h - 1)) C 92 dX9_does_259 (by omega) h92 (ti_in hx81 (by omega) (by omega)) (by rw [ti_cl hx81, show Int.toNat ((h : Int) - 1) = h - 1 by omega]) ?_
    refine v_iconst (v := 1) C dX9_does_260 (by decide) ?_
    refine b_icmp_ne C 270 dX9_does_261 (by decide) hk1 (show (1 : Int32).toInt = 1 by decide) (fun c85 => ?_) (fun c85 => ?_)
    · refine v_iconst (v := 1) C dX9_does_270 (by decide) ?_
      refine v_i2l C dX9_does_271 rfl ?_
      refine v_topl (fun x86 ex86 => ?_)
      have hx86 : x86.toInt = 1 := by rw [ex86]; exact tl_of (show (1 : Int32).toInt = 1 by decide)
      refine v_lmul C dX9_does_272 ?_
      refine v_topl (fun x87 ex87 => ?_)
      have hx87 : x87.toInt = ((fx i1).toInt * 1) := by rw [ex87]; exact tl_mul hx84 hx86 (by omega) (by omega)
      refine v_ladd C dX9_does_273 ?_
      refine v_topl (fun x88 ex88 => ?_)
      have hx88 : x88.toInt = ((V (h - 1)) + ((fx i1).toInt * 1)) := by rw [ex88]; exact tl_add hx83 hx87 (by omega) (by omega)
      have hs2 : simK g2 kd K2 := by rw [e2, eK]; exact hsim
      have hkq : (kd (h - 1)).toInt = (K2 (g2 - 1).toNat).toInt := by rw [show (g2 - 1).toNat = h - 1 by omega]; exact simK_K hs2 (by omega)
      have hkb := hok2.2 (g2 - 1).toNat (by omega)
      have hval : ((V (h - 1)) + ((fx i1).toInt * 1)) = chV ic md TT 6 (fx i1).toInt (fy i1).toInt (K (h - 1)).toInt (V (h - 1)) := by unfold chV; (repeat first | rw [if_pos (by omega)] | rw [if_neg (by omega)]); try omega
      refine v_cVi C dX9_does_274 lX9_242 mX9_comesTo 68 (by omega) h68 (by decide) rfl (y_comesTo l G n ad _ hn hW hR hS hTT hV h92 h93 (h := h) (show Int32.toInt (im 35) = ((h : Nat) : Int) by have := hh; omega) (by omega) (by omega) (by rw [show h - 1 = h - 1 by omega, hkq]; exact hkb) x88) ⟨by decide, by decide⟩ rfl (Nat.le_of_ble_eq_true rfl) ⟨Nat.zero_le _, Nat.zero_le _⟩ (fun r89 E90 hq91 => ?_)
      rw [hkq, hx88, hval] at hq91
      rcases hq91 with ⟨rfl, hwi, xw, hxw, im9, hi9, hW9, hS9, h93n, hO9⟩ | ⟨rfl, hwi, vl9, im9, hi9, hW9, hS9, h93n, hO9⟩
      · exact v_ret C dX9_does_277 rfl rfl (Or.inl ⟨rfl, updI V (h - 1) (chV ic md TT 6 (fx i1).toInt (fy i1).toInt (K (h - 1)).toInt (V (h - 1))), _, _, (by rw [ho, VS_6 (by rw [show ((h : Int) - 1).toNat = h - 1 by omega]; exact hwi), show ((h : Int) - 1).toNat = h - 1 by omega]), hs2, (fun j hj => av_up hav hxw (fun j q1 q2 => by omega) j (show j < h by omega)), ⟨im9, (fun q g1 g2 => (hi9 q g1).trans ((fun _ _ _ => rfl) q g1 g2)), (show (im9 35).toInt = g2 by rw [hi9 35 (by decide)]; exact (show Int32.toInt (im 35) = g2 by have := hh; omega)), hW9, hS9, (hO9 92 (by decide) (by decide) (by decide) (by decide)).trans h92, h93n, fun j g1 g2 g3 g4 g5 => (hO9 j g1 g2 g3 g5).trans (rfl)⟩⟩)
      · exact v_ret C dX9_does_277 rfl rfl (Or.inr ⟨rfl, (by rw [ho, VS_6n (by rw [show ((h : Int) - 1).toNat = h - 1 by omega]; exact hwi)]), _, _, _, ⟨im9, (fun q g1 g2 => (hi9 q g1).trans ((fun _ _ _ => rfl) q g1 g2)), (show (im9 35).toInt = g2 by rw [hi9 35 (by decide)]; exact (show Int32.toInt (im 35) = g2 by have := hh; omega)), hW9, hS9, (hO9 92 (by decide) (by decide) (by decide) (by decide)).trans h92, h93n, fun j g1 g2 g3 g4 g5 => (hO9 j g1 g2 g3 g5).trans (rfl)⟩⟩)
    · refine v_sipush (v := 1440) C dX9_does_264 (by decide) ?_
      refine v_goto C 271 dX9_does_267 (by decide) ?_
      refine v_i2l C dX9_does_271 rfl ?_
      refine v_topl (fun x92 ex92 => ?_)
      have hx92 : x92.toInt = 1440 := by rw [ex92]; exact tl_of (show (1440 : Int32).toInt = 1440 by decide)
      refine v_lmul C dX9_does_272 ?_
      refine v_topl (fun x93 ex93 => ?_)
      have hx93 : x93.toInt = ((fx i1).toInt * 1440) := by rw [ex93]; exact tl_mul hx84 hx92 (by omega) (by omega)
      refine v_ladd C dX9_does_273 ?_
      refine v_topl (fun x94 ex94 => ?_)
      have hx94 : x94.toInt = ((V (h - 1)) + ((fx i1).toInt * 1440)) := by rw [ex94]; exact tl_add hx83 hx93 (by omega) (by omega)
      have hs2 : simK g2 kd K2 := by rw [e2, eK]; exact hsim
      have hkq : (kd (h - 1)).toInt = (K2 (g2 - 1).toNat).toInt := by rw [show (g2 - 1).toNat = h - 1 by omega]; exact simK_K hs2 (by omega)
      have hkb := hok2.2 (g2 - 1).toNat (by omega)
      have hval : ((V (h - 1)) + ((fx i1).toInt * 1440)) = chV ic md TT 6 (fx i1).toInt (fy i1).toInt (K (h - 1)).toInt (V (h - 1)) := by unfold chV; (repeat first | rw [if_pos (by omega)] | rw [if_neg (by omega)]); try omega
      refine v_cVi C dX9_does_274 lX9_242 mX9_comesTo 68 (by omega) h68 (by decide) rfl (y_comesTo l G n ad _ hn hW hR hS hTT hV h92 h93 (h := h) (show Int32.toInt (im 35) = ((h : Nat) : Int) by have := hh; omega) (by omega) (by omega) (by rw [show h - 1 = h - 1 by omega, hkq]; exact hkb) x94) ⟨by decide, by decide⟩ rfl (Nat.le_of_ble_eq_true rfl) ⟨Nat.zero_le _, Nat.zero_le _⟩ (fun r95 E96 hq97 => ?_)
      rw [hkq, hx94, hval] at hq97
      rcases hq97 with ⟨rfl, hwi, xw, hxw, im9, hi9, hW9, hS9, h93n, hO9⟩ | ⟨rfl, hwi, vl9, im9, hi9, hW9, hS9, h93n, hO9⟩
      · exact v_ret C dX9_does_277 rfl rfl (Or.inl ⟨rfl, updI V (h - 1) (chV ic md TT 6 (fx i1).toInt (fy i1).toInt (K (h - 1)).toInt (V (h - 1))), _, _, (by rw [ho, VS_6 (by rw [show ((h : Int) - 1).toNat = h - 1 by omega]; exact hwi), show ((h : Int) - 1).toNat = h - 1 by omega]), hs2, (fun j hj => av_up hav hxw (fun j q1 q2 => by omega) j (show j < h by omega)), ⟨im9, (fun q g1 g2 => (hi9 q g1).trans ((fun _ _ _ => rfl) q g1 g2)), (show (im9 35).toInt = g2 by rw [hi9 35 (by decide)]; exact (show Int32.toInt (im 35) = g2 by have := hh; omega)), hW9, hS9, (hO9 92 (by decide) (by decide) (by decide) (by decide)).trans h92, h93n, fun j g1 g2 g3 g4 g5 => (hO9 j g1 g2 g3 g5).trans (rfl)⟩⟩)
      · exact v_ret C dX9_does_277 rfl rfl (Or.inr ⟨rfl, (by rw [ho, VS_6n (by rw [show ((h : Int) - 1).toNat = h - 1 by omega]; exact hwi)]), _, _, _, ⟨im9, (fun q g1 g2 => (hi9 q g1).trans ((fun _ _ _ => rfl) q g1 g2)), (show (im9 35).toInt = g2 by rw [hi9 35 (by decide)]; exact (show Int32.toInt (im 35) = g2 by have := hh; omega)), hW9, hS9, (hO9 92 (by decide) (by decide) (by decide) (by decide)).trans h92, h93n, fun j g1 g2 g3 g4 g5 => (hO9 j g1 g2 g3 g5).trans (rfl)⟩⟩)
  · rw [ho] at hFT
    obtain ⟨hg, e2, eK⟩ := FT_7 hFT
    rw [show ((h : Int) - 1).toNat = h - 1 by omega] at hg
    have ha1 := hav (h - 1) (by omega)
    have hw1 := ti_wi hP (hoV (h - 1) (by omega))
    have hk1 := simK_K hsim (j := h - 1) (by omega)
    have hv1 := hoV (h - 1) (by omega)
    unfold wiK at hv1
    unfold okLn at hln
    refine v_aload_n C 0 dX9_does_0 rfl rfl ?_
    refine v_geti (v := im 35) C 68 dX9_does_1 fX9_203 (by omega) h68 rfl rfl ?_
    refine v_iconst (v := 1) C dX9_does_4 (by decide) ?_
    refine v_isub C dX9_does_5 ?_
    refine v_top (fun x98 ex98 => ?_)
    have hx98 : x98.toInt = ((h : Int) - 1) := by rw [ex98]; exact ti_sub hh (show (1 : Int32).toInt = 1 by decide) (by omega) (by omega)
    refine v_istore_n (lv' := [(0, .ref (ad 68)), (1, .int x), (2, .int m), (3, .int x98)]) C [1, 2, 3, 0] dX9_does_6 rfl (by decide) rfl ?_
    refine v_iload_n C 3 dX9_does_7 rfl rfl ?_
    refine b_if_lt C 21 dX9_does_8 (by decide) hx98 (fun c99 => by exfalso; omega) (fun c99 => ?_)
    refine v_aload_n C 0 dX9_does_11 rfl rfl ?_
    refine v_getr C 68 dX9_does_12 fX9_100 (by omega) h68 rfl rfl ?_
    refine v_iload_n C 3 dX9_does_15 rfl rfl ?_
    refine v_ald (v := vl (h - 1)) C 93 dX9_does_16 (by omega) h93 (ti_in hx98 (by omega) (by omega)) (by rw [ti_cl hx98, show Int.toNat ((h : Int) - 1) = h - 1 by omega]) ?_
    refine v_i2l C dX9_does_17 rfl ?_
    refine v_topl (fun x100 ex100 => ?_)
    have hx100 : x100.toInt = (V (h - 1)) := by rw [ex100]; exact tl_of ha1
    refine v_goto C 22 dX9_does_18 (by decide) ?_
    refine v_lstore (lv' := [(0, .ref (ad 68)), (1, .int x), (2, .int m), (3, .int x98), (4, .long x100)]) C [1, 2, 3, 4, 0] dX9_does_22 (by decide) rfl ?_
    refine v_aload_n C 0 dX9_does_24 rfl rfl ?_
    refine v_getr C 68 dX9_does_25 fX9_88 (by omega) h68 rfl rfl ?_
    refine v_iload_n C 1 dX9_does_28 rfl rfl ?_
    refine v_ald (v := fo i1) C 89 dX9_does_29 (by omega) h89 (ti_in hx (by omega) (by omega)) (by rw [ti_cl hx, show Int.toNat (i1 : Int) = i1 by omega]) ?_
    refine v_tableIn (off := 248) C 278 dX9_does_30 (by omega) (by omega) (by rw [ho]; rfl) (by decide) ?_
    refine v_aload_n C 0 dX9_does_278 rfl rfl ?_
    refine v_aload_n C 0 dX9_does_279 rfl rfl ?_
    refine v_lload C 4 dX9_does_280 rfl ?_
    refine v_l2i C dX9_does_282 rfl ?_
    refine v_top (fun x101 ex101 => ?_)
    have hx101 : x101.toInt = (V (h - 1)) := by rw [ex101]; exact tl_i hx100 (by omega) (by omega)
    refine v_aload_n C 0 dX9_does_283 rfl rfl ?_
    refine v_getr C 68 dX9_does_284 fX9_91 (by omega) h68 rfl rfl ?_
    refine v_iload_n C 1 dX9_does_287 rfl rfl ?_
    refine v_ald (v := fx i1) C 90 dX9_does_288 (by omega) h90 (ti_in hx (by omega) (by omega)) (by rw [ti_cl hx, show Int.toNat (i1 : Int) = i1 by omega]) ?_
    refine v_aload_n C 0 dX9_does_289 rfl rfl ?_
    refine v_getr C 68 dX9_does_290 fX9_94 (by omega) h68 rfl rfl ?_
    refine v_iload_n C 1 dX9_does_293 rfl rfl ?_
    refine v_ald (v := fy i1) C 91 dX9_does_294 (by omega) h91 (ti_in hx (by omega) (by omega)) (by rw [ti_cl hx, show Int.toNat (i1 : Int) = i1 by omega]) ?_
    refine v_cVi C dX9_does_295 lX9_152 mX9_later 68 (by omega) h68 (by decide) rfl (d_later l G n ad _ hn hW x101 (fx i1) (fy i1) (by omega) (by omega) (by omega) (by omega) (by omega) (by omega)) ⟨by decide, by decide⟩ rfl (Nat.le_of_ble_eq_true rfl) ⟨Nat.zero_le _, Nat.zero_le _⟩ (fun r102 E103 hq104 => ?_)
    obtain ⟨⟨kq, q1, q2, q3, hrv⟩, hmr⟩ := hq104
    have hF105 := FQ.mr hS hmr
    rw [mnF_eq hP q1 q2 q3, hx101] at hrv
    obtain ⟨im106, hi106, hW106, hS106, hO106⟩ := id hF105
    have hR106 := hR.go (fun j h1 h2 => hO106 j (by omega) (by omega) (by omega))
    have hT106 : ∀ z, z < 5 → TT z = TTz ic md rf rto ron rat rbe rtd rm fv (im106 18).toInt z := fun z hz => by rw [hi106 18 (by decide)]; exact hTT z hz
    have hI106 : ∀ q, q ≠ 7 → q ≠ 35 → im106 q = im q := fun q g1 g2 => (hi106 q g1).trans ((fun _ _ _ => rfl) q g1 g2)
    have hJ106 : ∀ q, q ≠ 7 → im106 q = im q := fun q g1 => (hi106 q g1).trans ((fun _ _ => rfl) q g1)
    have hE103_92 := (hO106 92 (by decide) (by decide) (by decide)).trans h92
    have hE103_93 := (hO106 93 (by decide) (by decide) (by decide)).trans h93
    have hE103_89 := (hO106 89 (by decide) (by decide) (by decide)).trans h89
    have hE103_90 := (hO106 90 (by decide) (by decide) (by decide)).trans h90
    have hE103_91 := (hO106 91 (by decide) (by decide) (by decide)).trans h91
    have e68106 := hW106.2.2.1
    have hp35106 : (im106 35).toInt = (h : Int) := by rw [hi106 35 (by decide)]; exact hh
    refine v_i2l C dX9_does_298 rfl ?_
    refine v_topl (fun x107 ex107 => ?_)
    have hx107 : x107.toInt = (mnF ic md (V (h - 1)) (fx i1).toInt (fy i1).toInt) := by rw [ex107]; exact tl_of hrv
    have hs2 : simK g2 kd K2 := by rw [e2, eK]; exact hsim
    have hkq : (kd (h - 1)).toInt = (K2 (g2 - 1).toNat).toInt := by rw [show (g2 - 1).toNat = h - 1 by omega]; exact simK_K hs2 (by omega)
    have hkb := hok2.2 (g2 - 1).toNat (by omega)
    have hval : (mnF ic md (V (h - 1)) (fx i1).toInt (fy i1).toInt) = chV ic md TT 7 (fx i1).toInt (fy i1).toInt (K (h - 1)).toInt (V (h - 1)) := by unfold chV; (repeat first | rw [if_pos (by omega)] | rw [if_neg (by omega)]); try omega
    refine v_cVi C dX9_does_299 lX9_242 mX9_comesTo 68 (by omega) e68106 (by decide) rfl (y_comesTo l G n ad _ hn hW106 hR106 hS106 hT106 hV hE103_92 hE103_93 (h := h) (show Int32.toInt (im106 35) = ((h : Nat) : Int) by have := hp35106; omega) (by omega) (by omega) (by rw [show h - 1 = h - 1 by omega, hkq]; exact hkb) x107) ⟨by decide, by decide⟩ rfl (Nat.le_of_ble_eq_true rfl) ⟨Nat.zero_le _, Nat.zero_le _⟩ (fun r108 E109 hq110 => ?_)
    rw [hkq, hx107, hval] at hq110
    rcases hq110 with ⟨rfl, hwi, xw, hxw, im9, hi9, hW9, hS9, h93n, hO9⟩ | ⟨rfl, hwi, vl9, im9, hi9, hW9, hS9, h93n, hO9⟩
    · exact v_ret C dX9_does_302 rfl rfl (Or.inl ⟨rfl, updI V (h - 1) (chV ic md TT 7 (fx i1).toInt (fy i1).toInt (K (h - 1)).toInt (V (h - 1))), _, _, (by rw [ho, VS_7 (by rw [show ((h : Int) - 1).toNat = h - 1 by omega]; exact hwi), show ((h : Int) - 1).toNat = h - 1 by omega]), hs2, (fun j hj => av_up hav hxw (fun j q1 q2 => by omega) j (show j < h by omega)), ⟨im9, (fun q g1 g2 => (hi9 q g1).trans (hI106 q g1 g2)), (show (im9 35).toInt = g2 by rw [hi9 35 (by decide)]; exact (show Int32.toInt (im106 35) = g2 by have := hp35106; omega)), hW9, hS9, (hO9 92 (by decide) (by decide) (by decide) (by decide)).trans hE103_92, h93n, fun j g1 g2 g3 g4 g5 => (hO9 j g1 g2 g3 g5).trans ((hO106 j (by omega) (by omega) (by omega)))⟩⟩)
    · exact v_ret C dX9_does_302 rfl rfl (Or.inr ⟨rfl, (by rw [ho, VS_7n (by rw [show ((h : Int) - 1).toNat = h - 1 by omega]; exact hwi)]), _, _, _, ⟨im9, (fun q g1 g2 => (hi9 q g1).trans (hI106 q g1 g2)), (show (im9 35).toInt = g2 by rw [hi9 35 (by decide)]; exact (show Int32.toInt (im106 35) = g2 by have := hp35106; omega)), hW9, hS9, (hO9 92 (by decide) (by decide) (by decide) (by decide)).trans hE103_92, h93n, fun j g1 g2 g3 g4 g5 => (hO9 j g1 g2 g3 g5).trans ((hO106 j (by omega) (by omega) (by omega)))⟩⟩)
  · rw [ho] at hFT
    obtain ⟨hg, e2, eK⟩ := FT_8 hFT
    rw [show ((h : Int) - 2).toNat = h - 2 by omega] at eK
    rw [show ((h : Int) - 1).toNat = h - 1 by omega, show ((h : Int) - 2).toNat = h - 2 by omega] at hg
    have ha1 := hav (h - 1) (by omega)
    have hw1 := ti_wi hP (hoV (h - 1) (by omega))
    have hk1 := simK_K hsim (j := h - 1) (by omega)
    have hv1 := hoV (h - 1) (by omega)
    unfold wiK at hv1
    have ha2 := hav (h - 2) (by omega)
    have hw2 := ti_wi hP (hoV (h - 2) (by omega))
    have hk2 := simK_K hsim (j := h - 2) (by omega)
    have hv2 := hoV (h - 2) (by omega)
    unfold wiK at hv2
    refine v_aload_n C 0 dX9_does_0 rfl rfl ?_
    refine v_geti (v := im 35) C 68 dX9_does_1 fX9_203 (by omega) h68 rfl rfl ?_
    refine v_iconst (v := 1) C dX9_does_4 (by decide) ?_
    refine v_isub C dX9_does_5 ?_
    refine v_top (fun x111 ex111 => ?_)
    have hx111 : x111.toInt = ((h : Int) - 1) := by rw [ex111]; exact ti_sub hh (show (1 : Int32).toInt = 1 by decide) (by omega) (by omega)
    refine v_istore_n (lv' := [(0, .ref (ad 68)), (1, .int x), (2, .int m), (3, .int x111)]) C [1, 2, 3, 0] dX9_does_6 rfl (by decide) rfl ?_
    refine v_iload_n C 3 dX9_does_7 rfl rfl ?_
    refine b_if_lt C 21 dX9_does_8 (by decide) hx111 (fun c112 => by exfalso; omega) (fun c112 => ?_)
    refine v_aload_n C 0 dX9_does_11 rfl rfl ?_
    refine v_getr C 68 dX9_does_12 fX9_100 (by omega) h68 rfl rfl ?_
    refine v_iload_n C 3 dX9_does_15 rfl rfl ?_
    refine v_ald (v := vl (h - 1)) C 93 dX9_does_16 (by omega) h93 (ti_in hx111 (by omega) (by omega)) (by rw [ti_cl hx111, show Int.toNat ((h : Int) - 1) = h - 1 by omega]) ?_
    refine v_i2l C dX9_does_17 rfl ?_
    refine v_topl (fun x113 ex113 => ?_)
    have hx113 : x113.toInt = (V (h - 1)) := by rw [ex113]; exact tl_of ha1
    refine v_goto C 22 dX9_does_18 (by decide) ?_
    refine v_lstore (lv' := [(0, .ref (ad 68)), (1, .int x), (2, .int m), (3, .int x111), (4, .long x113)]) C [1, 2, 3, 4, 0] dX9_does_22 (by decide) rfl ?_
    refine v_aload_n C 0 dX9_does_24 rfl rfl ?_
    refine v_getr C 68 dX9_does_25 fX9_88 (by omega) h68 rfl rfl ?_
    refine v_iload_n C 1 dX9_does_28 rfl rfl ?_
    refine v_ald (v := fo i1) C 89 dX9_does_29 (by omega) h89 (ti_in hx (by omega) (by omega)) (by rw [ti_cl hx, show Int.toNat (i1 : Int) = i1 by omega]) ?_
    refine v_tableIn (off := 273) C 303 dX9_does_30 (by omega) (by omega) (by rw [ho]; rfl) (by decide) ?_
    refine v_aload_n C 0 dX9_does_303 rfl rfl ?_
    refine v_dup C dX9_does_304 rfl ?_
    refine v_geti (v := im 35) C 68 dX9_does_305 fX9_203 (by omega) h68 rfl rfl ?_
    refine v_iconst (v := 1) C dX9_does_308 (by decide) ?_
    refine v_isub C dX9_does_309 ?_
    refine v_top (fun x114 ex114 => ?_)
    have hx114 : x114.toInt = ((h : Int) - 1) := by rw [ex114]; exact ti_sub hh (show (1 : Int32).toInt = 1 by decide) (by omega) (by omega)
    refine v_puti C 68 dX9_does_310 fX9_203 (by omega) h68 rfl rfl rfl rfl (fun E115 hE115_68 oE115 => ?_)
    have hE115_92 := (oE115 92 (by decide)).trans h92
    have hE115_93 := (oE115 93 (by decide)).trans h93
    have hE115_89 := (oE115 89 (by decide)).trans h89
    have hE115_90 := (oE115 90 (by decide)).trans h90
    have hE115_91 := (oE115 91 (by decide)).trans h91
    have hW116 := hW.up (k := 35) (by decide) hE115_68 (fun j hj => oE115 j hj)
    have hT116 : ∀ z, z < 5 → TT z = TTz ic md rf rto ron rat rbe rtd rm fv ((va_up im 35 x114) 18).toInt z := hTT
    have hI116 : ∀ q, q ≠ 7 → q ≠ 35 → (va_up im 35 x114) q = im q := fun q g1 g2 => (if_neg (by omega)).trans ((fun _ _ _ => rfl) q g1 g2)
    have hR116 := hR.go (fun j _ _ => oE115 j (by omega))
    have hS116 := hS.go (fun j _ _ => oE115 j (by omega))
    refine v_aload_n C 0 dX9_does_313 rfl rfl ?_
    refine v_getr C 68 dX9_does_314 fX9_97 (by omega) hE115_68 rfl rfl ?_
    refine v_aload_n C 0 dX9_does_317 rfl rfl ?_
    refine v_geti (v := x114) C 68 dX9_does_318 fX9_203 (by omega) hE115_68 rfl rfl ?_
    refine v_iconst (v := 1) C dX9_does_321 (by decide) ?_
    refine v_isub C dX9_does_322 ?_
    refine v_top (fun x117 ex117 => ?_)
    have hx117 : x117.toInt = (((h : Int) - 1) - 1) := by rw [ex117]; exact ti_sub hx114 (show (1 : Int32).toInt = 1 by decide) (by omega) (by omega)
    refine v_ald (v := kd (h - 2)) C 92 dX9_does_323 (by omega) hE115_92 (ti_in hx117 (by omega) (by omega)) (by rw [ti_cl hx117, show Int.toNat (((h : Int) - 1) - 1) = h - 2 by omega]) ?_
    refine v_iconst (v := 2) C dX9_does_324 (by decide) ?_
    refine b_icmp_ne C 332 dX9_does_325 (by decide) hk2 (show (2 : Int32).toInt = 2 by decide) (fun c118 => ?_) (fun c118 => ?_)
    · refine v_iconst (v := 0) C dX9_does_332 (by decide) ?_
      refine v_istore (lv' := [(0, .ref (ad 68)), (1, .int x), (2, .int m), (3, .int x111), (4, .long x113), (6, .int 0)]) C [1, 2, 3, 4, 5, 0] dX9_does_333 (by decide) rfl ?_
      refine v_aload_n C 0 dX9_does_335 rfl rfl ?_
      refine v_getr C 68 dX9_does_336 fX9_97 (by omega) hE115_68 rfl rfl ?_
      refine v_aload_n C 0 dX9_does_339 rfl rfl ?_
      refine v_geti (v := x114) C 68 dX9_does_340 fX9_203 (by omega) hE115_68 rfl rfl ?_
      refine v_iconst (v := 1) C dX9_does_343 (by decide) ?_
      refine v_isub C dX9_does_344 ?_
      refine v_top (fun x119 ex119 => ?_)
      have hx119 : x119.toInt = (((h : Int) - 1) - 1) := by rw [ex119]; exact ti_sub hx114 (show (1 : Int32).toInt = 1 by decide) (by omega) (by omega)
      refine v_iconst (v := 3) C dX9_does_345 (by decide) ?_
      refine v_ast C 92 dX9_does_346 (by omega) hE115_92 (ti_in hx119 (by omega) (by omega)) (fun E120 hE120_92 oE120 => ?_)
      rw [ti_cl hx119, show Int.toNat (((h : Int) - 1) - 1) = h - 2 by omega] at hE120_92
      have hE120_68 := (oE120 68 (by decide)).trans hE115_68
      have hE120_93 := (oE120 93 (by decide)).trans hE115_93
      have hE120_89 := (oE120 89 (by decide)).trans hE115_89
      have hE120_90 := (oE120 90 (by decide)).trans hE115_90
      have hE120_91 := (oE120 91 (by decide)).trans hE115_91
      have hW121 := hW116.of (oE120 68 (by decide)) (oE120 69 (by decide)) (oE120 70 (by decide))
      have hR121 := hR116.go (fun j _ _ => oE120 j (by omega))
      have hS121 := hS116.go (fun j _ _ => oE120 j (by omega))
      refine v_aload_n C 0 dX9_does_347 rfl rfl ?_
      refine v_lload C 4 dX9_does_348 rfl ?_
      refine v_aload_n C 0 dX9_does_350 rfl rfl ?_
      refine v_getr C 68 dX9_does_351 fX9_100 (by omega) hE120_68 rfl rfl ?_
      refine v_aload_n C 0 dX9_does_354 rfl rfl ?_
      refine v_geti (v := x114) C 68 dX9_does_355 fX9_203 (by omega) hE120_68 rfl rfl ?_
      refine v_iconst (v := 1) C dX9_does_358 (by decide) ?_
      refine v_isub C dX9_does_359 ?_
      refine v_top (fun x122 ex122 => ?_)
      have hx122 : x122.toInt = (((h : Int) - 1) - 1) := by rw [ex122]; exact ti_sub hx114 (show (1 : Int32).toInt = 1 by decide) (by omega) (by omega)
      refine v_ald (v := vl (h - 2)) C 93 dX9_does_360 (by omega) hE120_93 (ti_in hx122 (by omega) (by omega)) (by rw [ti_cl hx122, show Int.toNat (((h : Int) - 1) - 1) = h - 2 by omega]) ?_
      refine v_i2l C dX9_does_361 rfl ?_
      refine v_topl (fun x123 ex123 => ?_)
      have hx123 : x123.toInt = (V (h - 2)) := by rw [ex123]; exact tl_of ha2
      refine v_lsub C dX9_does_362 ?_
      refine v_topl (fun x124 ex124 => ?_)
      have hx124 : x124.toInt = ((V (h - 1)) - (V (h - 2))) := by rw [ex124]; exact tl_sub hx113 hx123 (by omega) (by omega)
      refine v_iload C 5 dX9_does_363 rfl ?_
      refine b_if_eq C 374 dX9_does_365 (by decide) (show (0 : Int32).toInt = 0 by decide) (fun c125 => ?_) (fun c125 => absurd c125 (by decide))
      refine v_iconst (v := 1) C dX9_does_374 (by decide) ?_
      refine v_i2l C dX9_does_375 rfl ?_
      refine v_topl (fun x126 ex126 => ?_)
      have hx126 : x126.toInt = 1 := by rw [ex126]; exact tl_of (show (1 : Int32).toInt = 1 by decide)
      refine v_lmul C dX9_does_376 ?_
      refine v_topl (fun x127 ex127 => ?_)
      have hx127 : x127.toInt = (((V (h - 1)) - (V (h - 2))) * 1) := by rw [ex127]; exact tl_mul hx124 hx126 (by omega) (by omega)
      have hs2 : simK g2 (upd kd (h - 2) 3) K2 := by rw [e2, eK]; exact simK_up hsim rfl (fun j q1 q2 => by omega)
      have hkq : ((upd kd (h - 2) 3) (h - 2)).toInt = (K2 (g2 - 1).toNat).toInt := by rw [show (g2 - 1).toNat = h - 2 by omega]; exact simK_K hs2 (by omega)
      have hkb := hok2.2 (g2 - 1).toNat (by omega)
      have hval : (((V (h - 1)) - (V (h - 2))) * 1) = jnV 8 (K (h - 1)).toInt (V (h - 2)) (V (h - 1)) := by unfold jnV; (repeat first | rw [if_pos (by omega)] | rw [if_neg (by omega)]); try omega
      refine v_cVi C dX9_does_377 lX9_242 mX9_comesTo 68 (by omega) hE120_68 (by decide) rfl (y_comesTo l G n ad _ hn hW121 hR121 hS121 hT116 hV hE120_92 hE120_93 (h := h - 1) (show Int32.toInt x114 = ((h - 1 : Nat) : Int) by have := hx114; omega) (by omega) (by omega) (by rw [show h - 1 - 1 = h - 2 by omega, hkq]; exact hkb) x127) ⟨by decide, by decide⟩ rfl (Nat.le_of_ble_eq_true rfl) ⟨Nat.zero_le _, Nat.zero_le _⟩ (fun r128 E129 hq130 => ?_)
      rw [show h - 1 - 1 = h - 2 by omega, hkq, hx127, hval] at hq130
      rcases hq130 with ⟨rfl, hwi, xw, hxw, im9, hi9, hW9, hS9, h93n, hO9⟩ | ⟨rfl, hwi, vl9, im9, hi9, hW9, hS9, h93n, hO9⟩
      · exact v_ret C dX9_does_380 rfl rfl (Or.inl ⟨rfl, updI V (h - 2) (jnV 8 (K (h - 1)).toInt (V (h - 2)) (V (h - 1))), _, _, (by rw [ho, VS_8 (by rw [show ((h : Int) - 1).toNat = h - 1 by omega, show ((h : Int) - 2).toNat = h - 2 by omega]; exact hwi), show ((h : Int) - 1).toNat = h - 1 by omega, show ((h : Int) - 2).toNat = h - 2 by omega]), hs2, (fun j hj => av_up hav hxw (fun j q1 q2 => by omega) j (show j < h - 1 by omega)), ⟨im9, (fun q g1 g2 => (hi9 q g1).trans (hI116 q g1 g2)), (show (im9 35).toInt = g2 by rw [hi9 35 (by decide)]; exact (show Int32.toInt x114 = g2 by have := hx114; omega)), hW9, hS9, (hO9 92 (by decide) (by decide) (by decide) (by decide)).trans hE120_92, h93n, fun j g1 g2 g3 g4 g5 => (hO9 j g1 g2 g3 g5).trans (((oE120 j (by omega)).trans (oE115 j (by omega))))⟩⟩)
      · exact v_ret C dX9_does_380 rfl rfl (Or.inr ⟨rfl, (by rw [ho, VS_8n (by rw [show ((h : Int) - 1).toNat = h - 1 by omega, show ((h : Int) - 2).toNat = h - 2 by omega]; exact hwi)]), _, _, _, ⟨im9, (fun q g1 g2 => (hi9 q g1).trans (hI116 q g1 g2)), (show (im9 35).toInt = g2 by rw [hi9 35 (by decide)]; exact (show Int32.toInt x114 = g2 by have := hx114; omega)), hW9, hS9, (hO9 92 (by decide) (by decide) (by decide) (by decide)).trans hE120_92, h93n, fun j g1 g2 g3 g4 g5 => (hO9 j g1 g2 g3 g5).trans (((oE120 j (by omega)).trans (oE115 j (by omega))))⟩⟩)
    · refine v_iconst (v := 1) C dX9_does_328 (by decide) ?_
      refine v_goto C 333 dX9_does_329 (by decide) ?_
      refine v_istore (lv' := [(0, .ref (ad 68)), (1, .int x), (2, .int m), (3, .int x111), (4, .long x113), (6, .int 1)]) C [1, 2, 3, 4, 5, 0] dX9_does_333 (by decide) rfl ?_
      refine v_aload_n C 0 dX9_does_335 rfl rfl ?_
      refine v_getr C 68 dX9_does_336 fX9_97 (by omega) hE115_68 rfl rfl ?_
      refine v_aload_n C 0 dX9_does_339 rfl rfl ?_
      refine v_geti (v := x114) C 68 dX9_does_340 fX9_203 (by omega) hE115_68 rfl rfl ?_
      refine v_iconst (v := 1) C dX9_does_343 (by decide) ?_
      refine v_isub C dX9_does_344 ?_
      refine v_top (fun x131 ex131 => ?_)
      have hx131 : x131.toInt = (((h : Int) - 1) - 1) := by rw [ex131]; exact ti_sub hx114 (show (1 : Int32).toInt = 1 by decide) (by omega) (by omega)
      refine v_iconst (v := 3) C dX9_does_345 (by decide) ?_
      refine v_ast C 92 dX9_does_346 (by omega) hE115_92 (ti_in hx131 (by omega) (by omega)) (fun E132 hE132_92 oE132 => ?_)
      rw [ti_cl hx131, show Int.toNat (((h : Int) - 1) - 1) = h - 2 by omega] at hE132_92
      have hE132_68 := (oE132 68 (by decide)).trans hE115_68
      have hE132_93 := (oE132 93 (by decide)).trans hE115_93
      have hE132_89 := (oE132 89 (by decide)).trans hE115_89
      have hE132_90 := (oE132 90 (by decide)).trans hE115_90
      have hE132_91 := (oE132 91 (by decide)).trans hE115_91
      have hW133 := hW116.of (oE132 68 (by decide)) (oE132 69 (by decide)) (oE132 70 (by decide))
      have hR133 := hR116.go (fun j _ _ => oE132 j (by omega))
      have hS133 := hS116.go (fun j _ _ => oE132 j (by omega))
      refine v_aload_n C 0 dX9_does_347 rfl rfl ?_
      refine v_lload C 4 dX9_does_348 rfl ?_
      refine v_aload_n C 0 dX9_does_350 rfl rfl ?_
      refine v_getr C 68 dX9_does_351 fX9_100 (by omega) hE132_68 rfl rfl ?_
      refine v_aload_n C 0 dX9_does_354 rfl rfl ?_
      refine v_geti (v := x114) C 68 dX9_does_355 fX9_203 (by omega) hE132_68 rfl rfl ?_
      refine v_iconst (v := 1) C dX9_does_358 (by decide) ?_
      refine v_isub C dX9_does_359 ?_
      refine v_top (fun x134 ex134 => ?_)
      have hx134 : x134.toInt = (((h : Int) - 1) - 1) := by rw [ex134]; exact ti_sub hx114 (show (1 : Int32).toInt = 1 by decide) (by omega) (by omega)
      refine v_ald (v := vl (h - 2)) C 93 dX9_does_360 (by omega) hE132_93 (ti_in hx134 (by omega) (by omega)) (by rw [ti_cl hx134, show Int.toNat (((h : Int) - 1) - 1) = h - 2 by omega]) ?_
      refine v_i2l C dX9_does_361 rfl ?_
      refine v_topl (fun x135 ex135 => ?_)
      have hx135 : x135.toInt = (V (h - 2)) := by rw [ex135]; exact tl_of ha2
      refine v_lsub C dX9_does_362 ?_
      refine v_topl (fun x136 ex136 => ?_)
      have hx136 : x136.toInt = ((V (h - 1)) - (V (h - 2))) := by rw [ex136]; exact tl_sub hx113 hx135 (by omega) (by omega)
      refine v_iload C 5 dX9_does_363 rfl ?_
      refine b_if_eq C 374 dX9_does_365 (by decide) (show (1 : Int32).toInt = 1 by decide) (fun c137 => absurd c137 (by decide)) (fun c137 => ?_)
      refine v_sipush (v := 1440) C dX9_does_368 (by decide) ?_
      refine v_goto C 375 dX9_does_371 (by decide) ?_
      refine v_i2l C dX9_does_375 rfl ?_
      refine v_topl (fun x138 ex138 => ?_)
      have hx138 : x138.toInt = 1440 := by rw [ex138]; exact tl_of (show (1440 : Int32).toInt = 1440 by decide)
      refine v_lmul C dX9_does_376 ?_
      refine v_topl (fun x139 ex139 => ?_)
      have hx139 : x139.toInt = (((V (h - 1)) - (V (h - 2))) * 1440) := by rw [ex139]; exact tl_mul hx136 hx138 (by omega) (by omega)
      have hs2 : simK g2 (upd kd (h - 2) 3) K2 := by rw [e2, eK]; exact simK_up hsim rfl (fun j q1 q2 => by omega)
      have hkq : ((upd kd (h - 2) 3) (h - 2)).toInt = (K2 (g2 - 1).toNat).toInt := by rw [show (g2 - 1).toNat = h - 2 by omega]; exact simK_K hs2 (by omega)
      have hkb := hok2.2 (g2 - 1).toNat (by omega)
      have hval : (((V (h - 1)) - (V (h - 2))) * 1440) = jnV 8 (K (h - 1)).toInt (V (h - 2)) (V (h - 1)) := by unfold jnV; (repeat first | rw [if_pos (by omega)] | rw [if_neg (by omega)]); try omega
      refine v_cVi C dX9_does_377 lX9_242 mX9_comesTo 68 (by omega) hE132_68 (by decide) rfl (y_comesTo l G n ad _ hn hW133 hR133 hS133 hT116 hV hE132_92 hE132_93 (h := h - 1) (show Int32.toInt x114 = ((h - 1 : Nat) : Int) by have := hx114; omega) (by omega) (by omega) (by rw [show h - 1 - 1 = h - 2 by omega, hkq]; exact hkb) x139) ⟨by decide, by decide⟩ rfl (Nat.le_of_ble_eq_true rfl) ⟨Nat.zero_le _, Nat.zero_le _⟩ (fun r140 E141 hq142 => ?_)
      rw [show h - 1 - 1 = h - 2 by omega, hkq, hx139, hval] at hq142
      rcases hq142 with ⟨rfl, hwi, xw, hxw, im9, hi9, hW9, hS9, h93n, hO9⟩ | ⟨rfl, hwi, vl9, im9, hi9, hW9, hS9, h93n, hO9⟩
      · exact v_ret C dX9_does_380 rfl rfl (Or.inl ⟨rfl, updI V (h - 2) (jnV 8 (K (h - 1)).toInt (V (h - 2)) (V (h - 1))), _, _, (by rw [ho, VS_8 (by rw [show ((h : Int) - 1).toNat = h - 1 by omega, show ((h : Int) - 2).toNat = h - 2 by omega]; exact hwi), show ((h : Int) - 1).toNat = h - 1 by omega, show ((h : Int) - 2).toNat = h - 2 by omega]), hs2, (fun j hj => av_up hav hxw (fun j q1 q2 => by omega) j (show j < h - 1 by omega)), ⟨im9, (fun q g1 g2 => (hi9 q g1).trans (hI116 q g1 g2)), (show (im9 35).toInt = g2 by rw [hi9 35 (by decide)]; exact (show Int32.toInt x114 = g2 by have := hx114; omega)), hW9, hS9, (hO9 92 (by decide) (by decide) (by decide) (by decide)).trans hE132_92, h93n, fun j g1 g2 g3 g4 g5 => (hO9 j g1 g2 g3 g5).trans (((oE132 j (by omega)).trans (oE115 j (by omega))))⟩⟩)
      · exact v_ret C dX9_does_380 rfl rfl (Or.inr ⟨rfl, (by rw [ho, VS_8n (by rw [show ((h : Int) - 1).toNat = h - 1 by omega, show ((h : Int) - 2).toNat = h - 2 by omega]; exact hwi)]), _, _, _, ⟨im9, (fun q g1 g2 => (hi9 q g1).trans (hI116 q g1 g2)), (show (im9 35).toInt = g2 by rw [hi9 35 (by decide)]; exact (show Int32.toInt x114 = g2 by have := hx114; omega)), hW9, hS9, (hO9 92 (by decide) (by decide) (by decide) (by decide)).trans hE132_92, h93n, fun j g1 g2 g3 g4 g5 => (hO9 j g1 g2 g3 g5).trans (((oE132 j (by omega)).trans (oE115 j (by omega))))⟩⟩)
  · rw [ho] at hFT
    obtain ⟨hg, e2, eK⟩ := FT_9 hFT
    rw [show ((h : Int) - 1).toNat = h - 1 by omega, show ((h : Int) - 2).toNat = h - 2 by omega] at hg
    have ha1 := hav (h - 1) (by omega)
    have hw1 := ti_wi hP (hoV (h - 1) (by omega))
    have hk1 := simK_K hsim (j := h - 1) (by omega)
    have hv1 := hoV (h - 1) (by omega)
    unfold wiK at hv1
    have ha2 := hav (h - 2) (by omega)
    have hw2 := ti_wi hP (hoV (h - 2) (by omega))
    have hk2 := simK_K hsim (j := h - 2) (by omega)
    have hv2 := hoV (h - 2) (by omega)
    unfold wiK at hv2
    refine v_aload_n C 0 dX9_does_0 rfl rfl ?_
    refine v_geti (v := im 35) C 68 dX9_does_1 fX9_203 (by omega) h68 rfl rfl ?_
    refine v_iconst (v := 1) C dX9_does_4 (by decide) ?_
    refine v_isub C dX9_does_5 ?_
    refine v_top (fun x143 ex143 => ?_)
    have hx143 : x143.toInt = ((h : Int) - 1) := by rw [ex143]; exact ti_sub hh (show (1 : Int32).toInt = 1 by decide) (by omega) (by omega)
    refine v_istore_n (lv' := [(0, .ref (ad 68)), (1, .int x), (2, .int m), (3, .int x143)]) C [1, 2, 3, 0] dX9_does_6 rfl (by decide) rfl ?_
    refine v_iload_n C 3 dX9_does_7 rfl rfl ?_
    refine b_if_lt C 21 dX9_does_8 (by decide) hx143 (fun c144 => by exfalso; omega) (fun c144 => ?_)
    refine v_aload_n C 0 dX9_does_11 rfl rfl ?_
    refine v_getr C 68 dX9_does_12 fX9_100 (by omega) h68 rfl rfl ?_
    refine v_iload_n C 3 dX9_does_15 rfl rfl ?_
    refine v_ald (v := vl (h - 1)) C 93 dX9_does_16 (by omega) h93 (ti_in hx143 (by omega) (by omega)) (by rw [ti_cl hx143, show Int.toNat ((h : Int) - 1) = h - 1 by omega]) ?_
    refine v_i2l C dX9_does_17 rfl ?_
    refine v_topl (fun x145 ex145 => ?_)
    have hx145 : x145.toInt = (V (h - 1)) := by rw [ex145]; exact tl_of ha1
    refine v_goto C 22 dX9_does_18 (by decide) ?_
    refine v_lstore (lv' := [(0, .ref (ad 68)), (1, .int x), (2, .int m), (3, .int x143), (4, .long x145)]) C [1, 2, 3, 4, 0] dX9_does_22 (by decide) rfl ?_
    refine v_aload_n C 0 dX9_does_24 rfl rfl ?_
    refine v_getr C 68 dX9_does_25 fX9_88 (by omega) h68 rfl rfl ?_
    refine v_iload_n C 1 dX9_does_28 rfl rfl ?_
    refine v_ald (v := fo i1) C 89 dX9_does_29 (by omega) h89 (ti_in hx (by omega) (by omega)) (by rw [ti_cl hx, show Int.toNat (i1 : Int) = i1 by omega]) ?_
    refine v_tableIn (off := 351) C 381 dX9_does_30 (by omega) (by omega) (by rw [ho]; rfl) (by decide) ?_
    refine v_aload_n C 0 dX9_does_381 rfl rfl ?_
    refine v_dup C dX9_does_382 rfl ?_
    refine v_geti (v := im 35) C 68 dX9_does_383 fX9_203 (by omega) h68 rfl rfl ?_
    refine v_iconst (v := 1) C dX9_does_386 (by decide) ?_
    refine v_isub C dX9_does_387 ?_
    refine v_top (fun x146 ex146 => ?_)
    have hx146 : x146.toInt = ((h : Int) - 1) := by rw [ex146]; exact ti_sub hh (show (1 : Int32).toInt = 1 by decide) (by omega) (by omega)
    refine v_puti C 68 dX9_does_388 fX9_203 (by omega) h68 rfl rfl rfl rfl (fun E147 hE147_68 oE147 => ?_)
    have hE147_92 := (oE147 92 (by decide)).trans h92
    have hE147_93 := (oE147 93 (by decide)).trans h93
    have hE147_89 := (oE147 89 (by decide)).trans h89
    have hE147_90 := (oE147 90 (by decide)).trans h90
    have hE147_91 := (oE147 91 (by decide)).trans h91
    have hW148 := hW.up (k := 35) (by decide) hE147_68 (fun j hj => oE147 j hj)
    have hT148 : ∀ z, z < 5 → TT z = TTz ic md rf rto ron rat rbe rtd rm fv ((va_up im 35 x146) 18).toInt z := hTT
    have hI148 : ∀ q, q ≠ 7 → q ≠ 35 → (va_up im 35 x146) q = im q := fun q g1 g2 => (if_neg (by omega)).trans ((fun _ _ _ => rfl) q g1 g2)
    have hR148 := hR.go (fun j _ _ => oE147 j (by omega))
    have hS148 := hS.go (fun j _ _ => oE147 j (by omega))
    refine v_aload_n C 0 dX9_does_391 rfl rfl ?_
    refine v_lload C 4 dX9_does_392 rfl ?_
    refine v_aload_n C 0 dX9_does_394 rfl rfl ?_
    refine v_getr C 68 dX9_does_395 fX9_100 (by omega) hE147_68 rfl rfl ?_
    refine v_aload_n C 0 dX9_does_398 rfl rfl ?_
    refine v_geti (v := x146) C 68 dX9_does_399 fX9_203 (by omega) hE147_68 rfl rfl ?_
    refine v_iconst (v := 1) C dX9_does_402 (by decide) ?_
    refine v_isub C dX9_does_403 ?_
    refine v_top (fun x149 ex149 => ?_)
    have hx149 : x149.toInt = (((h : Int) - 1) - 1) := by rw [ex149]; exact ti_sub hx146 (show (1 : Int32).toInt = 1 by decide) (by omega) (by omega)
    refine v_ald (v := vl (h - 2)) C 93 dX9_does_404 (by omega) hE147_93 (ti_in hx149 (by omega) (by omega)) (by rw [ti_cl hx149, show Int.toNat (((h : Int) - 1) - 1) = h - 2 by omega]) ?_
    refine v_i2l C dX9_does_405 rfl ?_
    refine v_topl (fun x150 ex150 => ?_)
    have hx150 : x150.toInt = (V (h - 2)) := by rw [ex150]; exact tl_of ha2
    refine v_ladd C dX9_does_406 ?_
    refine v_topl (fun x151 ex151 => ?_)
    have hx151 : x151.toInt = ((V (h - 1)) + (V (h - 2))) := by rw [ex151]; exact tl_add hx145 hx150 (by omega) (by omega)
    have hs2 : simK g2 kd K2 := by rw [e2, eK]; exact (fun j q => hsim j (by omega))
    have hkq : (kd (h - 2)).toInt = (K2 (g2 - 1).toNat).toInt := by rw [show (g2 - 1).toNat = h - 2 by omega]; exact simK_K hs2 (by omega)
    have hkb := hok2.2 (g2 - 1).toNat (by omega)
    have hval : ((V (h - 1)) + (V (h - 2))) = jnV 9 (K (h - 1)).toInt (V (h - 2)) (V (h - 1)) := by unfold jnV; (repeat first | rw [if_pos (by omega)] | rw [if_neg (by omega)]); try omega
    refine v_cVi C dX9_does_407 lX9_242 mX9_comesTo 68 (by omega) hE147_68 (by decide) rfl (y_comesTo l G n ad _ hn hW148 hR148 hS148 hT148 hV hE147_92 hE147_93 (h := h - 1) (show Int32.toInt x146 = ((h - 1 : Nat) : Int) by have := hx146; omega) (by omega) (by omega) (by rw [show h - 1 - 1 = h - 2 by omega, hkq]; exact hkb) x151) ⟨by decide, by decide⟩ rfl (Nat.le_of_ble_eq_true rfl) ⟨Nat.zero_le _, Nat.zero_le _⟩ (fun r152 E153 hq154 => ?_)
    rw [show h - 1 - 1 = h - 2 by omega, hkq, hx151, hval] at hq154
    rcases hq154 with ⟨rfl, hwi, xw, hxw, im9, hi9, hW9, hS9, h93n, hO9⟩ | ⟨rfl, hwi, vl9, im9, hi9, hW9, hS9, h93n, hO9⟩
    · exact v_ret C dX9_does_410 rfl rfl (Or.inl ⟨rfl, updI V (h - 2) (jnV 9 (K (h - 1)).toInt (V (h - 2)) (V (h - 1))), _, _, (by rw [ho, VS_9 (by rw [show ((h : Int) - 1).toNat = h - 1 by omega, show ((h : Int) - 2).toNat = h - 2 by omega]; exact hwi), show ((h : Int) - 1).toNat = h - 1 by omega, show ((h : Int) - 2).toNat = h - 2 by omega]), hs2, (fun j hj => av_up hav hxw (fun j q1 q2 => by omega) j (show j < h - 1 by omega)), ⟨im9, (fun q g1 g2 => (hi9 q g1).trans (hI148 q g1 g2)), (show (im9 35).toInt = g2 by rw [hi9 35 (by decide)]; exact (show Int32.toInt x146 = g2 by have := hx146; omega)), hW9, hS9, (hO9 92 (by decide) (by decide) (by decide) (by decide)).trans hE147_92, h93n, fun j g1 g2 g3 g4 g5 => (hO9 j g1 g2 g3 g5).trans ((oE147 j (by omega)))⟩⟩)
    · exact v_ret C dX9_does_410 rfl rfl (Or.inr ⟨rfl, (by rw [ho, VS_9n (by rw [show ((h : Int) - 1).toNat = h - 1 by omega, show ((h : Int) - 2).toNat = h - 2 by omega]; exact hwi)]), _, _, _, ⟨im9, (fun q g1 g2 => (hi9 q g1).trans (hI148 q g1 g2)), (show (im9 35).toInt = g2 by rw [hi9 35 (by decide)]; exact (show Int32.toInt x146 = g2 by have := hx146; omega)), hW9, hS9, (hO9 92 (by decide) (by decide) (by decide) (by decide)).trans hE147_92, h93n, fun j g1 g2 g3 g4 g5 => (hO9 j g1 g2 g3 g5).trans ((oE147 j (by omega)))⟩⟩)
  · rw [ho] at hFT
    obtain ⟨hg, e2, eK⟩ := FT_10 hFT
    rw [show ((h : Nat) : Int).toNat = h by omega, show ((h : Int) - 1).toNat = h - 1 by omega] at eK
    have ha1 := hav (h - 1) (by omega)
    have hw1 := ti_wi hP (hoV (h - 1) (by omega))
    have hk1 := simK_K hsim (j := h - 1) (by omega)
    have hv1 := hoV (h - 1) (by omega)
    unfold wiK at hv1
    refine v_aload_n C 0 dX9_does_0 rfl rfl ?_
    refine v_geti (v := im 35) C 68 dX9_does_1 fX9_203 (by omega) h68 rfl rfl ?_
    refine v_iconst (v := 1) C dX9_does_4 (by decide) ?_
    refine v_isub C dX9_does_5 ?_
    refine v_top (fun x155 ex155 => ?_)
    have hx155 : x155.toInt = ((h : Int) - 1) := by rw [ex155]; exact ti_sub hh (show (1 : Int32).toInt = 1 by decide) (by omega) (by omega)
    refine v_istore_n (lv' := [(0, .ref (ad 68)), (1, .int x), (2, .int m), (3, .int x155)]) C [1, 2, 3, 0] dX9_does_6 rfl (by decide) rfl ?_
    refine v_iload_n C 3 dX9_does_7 rfl rfl ?_
    refine b_if_lt C 21 dX9_does_8 (by decide) hx155 (fun c156 => by exfalso; omega) (fun c156 => ?_)
    refine v_aload_n C 0 dX9_does_11 rfl rfl ?_
    refine v_getr C 68 dX9_does_12 fX9_100 (by omega) h68 rfl rfl ?_
    refine v_iload_n C 3 dX9_does_15 rfl rfl ?_
    refine v_ald (v := vl (h - 1)) C 93 dX9_does_16 (by omega) h93 (ti_in hx155 (by omega) (by omega)) (by rw [ti_cl hx155, show Int.toNat ((h : Int) - 1) = h - 1 by omega]) ?_
    refine v_i2l C dX9_does_17 rfl ?_
    refine v_topl (fun x157 ex157 => ?_)
    have hx157 : x157.toInt = (V (h - 1)) := by rw [ex157]; exact tl_of ha1
    refine v_goto C 22 dX9_does_18 (by decide) ?_
    refine v_lstore (lv' := [(0, .ref (ad 68)), (1, .int x), (2, .int m), (3, .int x155), (4, .long x157)]) C [1, 2, 3, 4, 0] dX9_does_22 (by decide) rfl ?_
    refine v_aload_n C 0 dX9_does_24 rfl rfl ?_
    refine v_getr C 68 dX9_does_25 fX9_88 (by omega) h68 rfl rfl ?_
    refine v_iload_n C 1 dX9_does_28 rfl rfl ?_
    refine v_ald (v := fo i1) C 89 dX9_does_29 (by omega) h89 (ti_in hx (by omega) (by omega)) (by rw [ti_cl hx, show Int.toNat (i1 : Int) = i1 by omega]) ?_
    refine v_tableIn (off := 381) C 411 dX9_does_30 (by omega) (by omega) (by rw [ho]; rfl) (by decide) ?_
    refine v_aload_n C 0 dX9_does_411 rfl rfl ?_
    refine v_dup C dX9_does_412 rfl ?_
    refine v_geti (v := im 35) C 68 dX9_does_413 fX9_203 (by omega) h68 rfl rfl ?_
    refine v_iconst (v := 1) C dX9_does_416 (by decide) ?_
    refine v_iadd C dX9_does_417 ?_
    refine v_top (fun x158 ex158 => ?_)
    have hx158 : x158.toInt = ((h : Int) + 1) := by rw [ex158]; exact ti_add hh (show (1 : Int32).toInt = 1 by decide) (by omega) (by omega)
    refine v_puti C 68 dX9_does_418 fX9_203 (by omega) h68 rfl rfl rfl rfl (fun E159 hE159_68 oE159 => ?_)
    have hE159_92 := (oE159 92 (by decide)).trans h92
    have hE159_93 := (oE159 93 (by decide)).trans h93
    have hE159_89 := (oE159 89 (by decide)).trans h89
    have hE159_90 := (oE159 90 (by decide)).trans h90
    have hE159_91 := (oE159 91 (by decide)).trans h91
    have hW160 := hW.up (k := 35) (by decide) hE159_68 (fun j hj => oE159 j hj)
    have hT160 : ∀ z, z < 5 → TT z = TTz ic md rf rto ron rat rbe rtd rm fv ((va_up im 35 x158) 18).toInt z := hTT
    have hI160 : ∀ q, q ≠ 7 → q ≠ 35 → (va_up im 35 x158) q = im q := fun q g1 g2 => (if_neg (by omega)).trans ((fun _ _ _ => rfl) q g1 g2)
    have hR160 := hR.go (fun j _ _ => oE159 j (by omega))
    have hS160 := hS.go (fun j _ _ => oE159 j (by omega))
    refine v_aload_n C 0 dX9_does_421 rfl rfl ?_
    refine v_getr C 68 dX9_does_422 fX9_97 (by omega) hE159_68 rfl rfl ?_
    refine v_aload_n C 0 dX9_does_425 rfl rfl ?_
    refine v_geti (v := x158) C 68 dX9_does_426 fX9_203 (by omega) hE159_68 rfl rfl ?_
    refine v_iconst (v := 1) C dX9_does_429 (by decide) ?_
    refine v_isub C dX9_does_430 ?_
    refine v_top (fun x161 ex161 => ?_)
    have hx161 : x161.toInt = (((h : Int) + 1) - 1) := by rw [ex161]; exact ti_sub hx158 (show (1 : Int32).toInt = 1 by decide) (by omega) (by omega)
    refine v_aload_n C 0 dX9_does_431 rfl rfl ?_
    refine v_getr C 68 dX9_does_432 fX9_97 (by omega) hE159_68 rfl rfl ?_
    refine v_iload_n C 3 dX9_does_435 rfl rfl ?_
    refine v_ald (v := kd (h - 1)) C 92 dX9_does_436 (by omega) hE159_92 (ti_in hx155 (by omega) (by omega)) (by rw [ti_cl hx155, show Int.toNat ((h : Int) - 1) = h - 1 by omega]) ?_
    refine v_ast C 92 dX9_does_437 (by omega) hE159_92 (ti_in hx161 (by omega) (by omega)) (fun E162 hE162_92 oE162 => ?_)
    rw [ti_cl hx161, show Int.toNat (((h : Int) + 1) - 1) = h by omega] at hE162_92
    have hE162_68 := (oE162 68 (by decide)).trans hE159_68
    have hE162_93 := (oE162 93 (by decide)).trans hE159_93
    have hE162_89 := (oE162 89 (by decide)).trans hE159_89
    have hE162_90 := (oE162 90 (by decide)).trans hE159_90
    have hE162_91 := (oE162 91 (by decide)).trans hE159_91
    have hW163 := hW160.of (oE162 68 (by decide)) (oE162 69 (by decide)) (oE162 70 (by decide))
    have hR163 := hR160.go (fun j _ _ => oE162 j (by omega))
    have hS163 := hS160.go (fun j _ _ => oE162 j (by omega))
    refine v_aload_n C 0 dX9_does_438 rfl rfl ?_
    refine v_getr C 68 dX9_does_439 fX9_100 (by omega) hE162_68 rfl rfl ?_
    refine v_aload_n C 0 dX9_does_442 rfl rfl ?_
    refine v_geti (v := x158) C 68 dX9_does_443 fX9_203 (by omega) hE162_68 rfl rfl ?_
    refine v_iconst (v := 1) C dX9_does_446 (by decide) ?_
    refine v_isub C dX9_does_447 ?_
    refine v_top (fun x164 ex164 => ?_)
    have hx164 : x164.toInt = (((h : Int) + 1) - 1) := by rw [ex164]; exact ti_sub hx158 (show (1 : Int32).toInt = 1 by decide) (by omega) (by omega)
    refine v_aload_n C 0 dX9_does_448 rfl rfl ?_
    refine v_getr C 68 dX9_does_449 fX9_100 (by omega) hE162_68 rfl rfl ?_
    refine v_iload_n C 3 dX9_does_452 rfl rfl ?_
    refine v_ald (v := vl (h - 1)) C 93 dX9_does_453 (by omega) hE162_93 (ti_in hx155 (by omega) (by omega)) (by rw [ti_cl hx155, show Int.toNat ((h : Int) - 1) = h - 1 by omega]) ?_
    refine v_ast C 93 dX9_does_454 (by omega) hE162_93 (ti_in hx164 (by omega) (by omega)) (fun E165 hE165_93 oE165 => ?_)
    rw [ti_cl hx164, show Int.toNat (((h : Int) + 1) - 1) = h by omega] at hE165_93
    have hE165_68 := (oE165 68 (by decide)).trans hE162_68
    have hE165_92 := (oE165 92 (by decide)).trans hE162_92
    have hE165_89 := (oE165 89 (by decide)).trans hE162_89
    have hE165_90 := (oE165 90 (by decide)).trans hE162_90
    have hE165_91 := (oE165 91 (by decide)).trans hE162_91
    have hW166 := hW163.of (oE165 68 (by decide)) (oE165 69 (by decide)) (oE165 70 (by decide))
    have hR166 := hR163.go (fun j _ _ => oE165 j (by omega))
    have hS166 := hS163.go (fun j _ _ => oE165 j (by omega))
    refine v_iconst (v := 1) C dX9_does_455 (by decide) ?_
    exact v_ret C dX9_does_456 rfl rfl (Or.inl ⟨rfl, updI V h (V (h - 1)), _, _, (by rw [ho, VS_10, show ((h : Nat) : Int).toNat = h by omega, show ((h : Int) - 1).toNat = h - 1 by omega]), (by rw [e2, eK]; exact simK_up hsim (hsim (h - 1) (by omega)) (fun j q1 q2 => by omega)), (fun j hj => av_up hav ha1 (fun j q1 q2 => by omega) j (show j < h + 1 by omega)), ⟨_, hI160, (show Int32.toInt x158 = g2 by have := hx158; omega), hW166, hS166, hE165_92, hE165_93, fun j g1 g2 g3 g4 g5 => ((oE165 j (by omega)).trans ((oE162 j (by omega)).trans (oE159 j (by omega))))⟩⟩)
  · rw [ho] at hFT
    obtain ⟨hg, e2, eK⟩ := FT_11 hFT
    rw [show ((h : Int) - 1).toNat = h - 1 by omega, show ((h : Int) - 2).toNat = h - 2 by omega] at eK
    have ha1 := hav (h - 1) (by omega)
    have hw1 := ti_wi hP (hoV (h - 1) (by omega))
    have hk1 := simK_K hsim (j := h - 1) (by omega)
    have hv1 := hoV (h - 1) (by omega)
    unfold wiK at hv1
    have ha2 := hav (h - 2) (by omega)
    have hw2 := ti_wi hP (hoV (h - 2) (by omega))
    have hk2 := simK_K hsim (j := h - 2) (by omega)
    have hv2 := hoV (h - 2) (by omega)
    unfold wiK at hv2
    refine v_aload_n C 0 dX9_does_0 rfl rfl ?_
    refine v_geti (v := im 35) C 68 dX9_does_1 fX9_203 (by omega) h68 rfl rfl ?_
    refine v_iconst (v := 1) C dX9_does_4 (by decide) ?_
    refine v_isub C dX9_does_5 ?_
    refine v_top (fun x167 ex167 => ?_)
    have hx167 : x167.toInt = ((h : Int) - 1) := by rw [ex167]; exact ti_sub hh (show (1 : Int32).toInt = 1 by decide) (by omega) (by omega)
    refine v_istore_n (lv' := [(0, .ref (ad 68)), (1, .int x), (2, .int m), (3, .int x167)]) C [1, 2, 3, 0] dX9_does_6 rfl (by decide) rfl ?_
    refine v_iload_n C 3 dX9_does_7 rfl rfl ?_
    refine b_if_lt C 21 dX9_does_8 (by decide) hx167 (fun c168 => by exfalso; omega) (fun c168 => ?_)
    refine v_aload_n C 0 dX9_does_11 rfl rfl ?_
    refine v_getr C 68 dX9_does_12 fX9_100 (by omega) h68 rfl rfl ?_
    refine v_iload_n C 3 dX9_does_15 rfl rfl ?_
    refine v_ald (v := vl (h - 1)) C 93 dX9_does_16 (by omega) h93 (ti_in hx167 (by omega) (by omega)) (by rw [ti_cl hx167, show Int.toNat ((h : Int) - 1) = h - 1 by omega]) ?_
    refine v_i2l C dX9_does_17 rfl ?_
    refine v_topl (fun x169 ex169 => ?_)
    have hx169 : x169.toInt = (V (h - 1)) := by rw [ex169]; exact tl_of ha1
    refine v_goto C 22 dX9_does_18 (by decide) ?_
    refine v_lstore (lv' := [(0, .ref (ad 68)), (1, .int x), (2, .int m), (3, .int x167), (4, .long x169)]) C [1, 2, 3, 4, 0] dX9_does_22 (by decide) rfl ?_
    refine v_aload_n C 0 dX9_does_24 rfl rfl ?_
    refine v_getr C 68 dX9_does_25 fX9_88 (by omega) h68 rfl rfl ?_
    refine v_iload_n C 1 dX9_does_28 rfl rfl ?_
    refine v_ald (v := fo i1) C 89 dX9_does_29 (by omega) h89 (ti_in hx (by omega) (by omega)) (by rw [ti_cl hx, show Int.toNat (i1 : Int) = i1 by omega]) ?_
    refine v_tableOut C 457 dX9_does_30 (by omega) (by decide) ?_
    refine v_aload_n C 0 dX9_does_457 rfl rfl ?_
    refine v_getr C 68 dX9_does_458 fX9_97 (by omega) h68 rfl rfl ?_
    refine v_iload_n C 3 dX9_does_461 rfl rfl ?_
    refine v_ald (v := kd (h - 1)) C 92 dX9_does_462 (by omega) h92 (ti_in hx167 (by omega) (by omega)) (by rw [ti_cl hx167, show Int.toNat ((h : Int) - 1) = h - 1 by omega]) ?_
    refine v_istore (lv' := [(0, .ref (ad 68)), (1, .int x), (2, .int m), (3, .int x167), (4, .long x169), (7, .int (kd (h - 1)))]) C [1, 2, 3, 4, 5, 0] dX9_does_463 (by decide) rfl ?_
    refine v_aload_n C 0 dX9_does_465 rfl rfl ?_
    refine v_getr C 68 dX9_does_466 fX9_97 (by omega) h68 rfl rfl ?_
    refine v_iload_n C 3 dX9_does_469 rfl rfl ?_
    refine v_aload_n C 0 dX9_does_470 rfl rfl ?_
    refine v_getr C 68 dX9_does_471 fX9_97 (by omega) h68 rfl rfl ?_
    refine v_iload_n C 3 dX9_does_474 rfl rfl ?_
    refine v_iconst (v := 1) C dX9_does_475 (by decide) ?_
    refine v_isub C dX9_does_476 ?_
    refine v_top (fun x170 ex170 => ?_)
    have hx170 : x170.toInt = (((h : Int) - 1) - 1) := by rw [ex170]; exact ti_sub hx167 (show (1 : Int32).toInt = 1 by decide) (by omega) (by omega)
    refine v_ald (v := kd (h - 2)) C 92 dX9_does_477 (by omega) h92 (ti_in hx170 (by omega) (by omega)) (by rw [ti_cl hx170, show Int.toNat (((h : Int) - 1) - 1) = h - 2 by omega]) ?_
    refine v_ast C 92 dX9_does_478 (by omega) h92 (ti_in hx167 (by omega) (by omega)) (fun E171 hE171_92 oE171 => ?_)
    rw [ti_cl hx167, show Int.toNat ((h : Int) - 1) = h - 1 by omega] at hE171_92
    have hE171_68 := (oE171 68 (by decide)).trans h68
    have hE171_93 := (oE171 93 (by decide)).trans h93
    have hE171_89 := (oE171 89 (by decide)).trans h89
    have hE171_90 := (oE171 90 (by decide)).trans h90
    have hE171_91 := (oE171 91 (by decide)).trans h91
    have hW172 := hW.of (oE171 68 (by decide)) (oE171 69 (by decide)) (oE171 70 (by decide))
    have hR172 := hR.go (fun j _ _ => oE171 j (by omega))
    have hS172 := hS.go (fun j _ _ => oE171 j (by omega))
    refine v_aload_n C 0 dX9_does_479 rfl rfl ?_
    refine v_getr C 68 dX9_does_480 fX9_97 (by omega) hE171_68 rfl rfl ?_
    refine v_iload_n C 3 dX9_does_483 rfl rfl ?_
    refine v_iconst (v := 1) C dX9_does_484 (by decide) ?_
    refine v_isub C dX9_does_485 ?_
    refine v_top (fun x173 ex173 => ?_)
    have hx173 : x173.toInt = (((h : Int) - 1) - 1) := by rw [ex173]; exact ti_sub hx167 (show (1 : Int32).toInt = 1 by decide) (by omega) (by omega)
    refine v_iload C 5 dX9_does_486 rfl ?_
    refine v_ast C 92 dX9_does_488 (by omega) hE171_92 (ti_in hx173 (by omega) (by omega)) (fun E174 hE174_92 oE174 => ?_)
    rw [ti_cl hx173, show Int.toNat (((h : Int) - 1) - 1) = h - 2 by omega] at hE174_92
    have hE174_68 := (oE174 68 (by decide)).trans hE171_68
    have hE174_93 := (oE174 93 (by decide)).trans hE171_93
    have hE174_89 := (oE174 89 (by decide)).trans hE171_89
    have hE174_90 := (oE174 90 (by decide)).trans hE171_90
    have hE174_91 := (oE174 91 (by decide)).trans hE171_91
    have hW175 := hW172.of (oE174 68 (by decide)) (oE174 69 (by decide)) (oE174 70 (by decide))
    have hR175 := hR172.go (fun j _ _ => oE174 j (by omega))
    have hS175 := hS172.go (fun j _ _ => oE174 j (by omega))
    refine v_aload_n C 0 dX9_does_489 rfl rfl ?_
    refine v_getr C 68 dX9_does_490 fX9_100 (by omega) hE174_68 rfl rfl ?_
    refine v_iload_n C 3 dX9_does_493 rfl rfl ?_
    refine v_aload_n C 0 dX9_does_494 rfl rfl ?_
    refine v_getr C 68 dX9_does_495 fX9_100 (by omega) hE174_68 rfl rfl ?_
    refine v_iload_n C 3 dX9_does_498 rfl rfl ?_
    refine v_iconst (v := 1) C dX9_does_499 (by decide) ?_
    refine v_isub C dX9_does_500 ?_
    refine v_top (fun x176 ex176 => ?_)
    have hx176 : x176.toInt = (((h : Int) - 1) - 1) := by rw [ex176]; exact ti_sub hx167 (show (1 : Int32).toInt = 1 by decide) (by omega) (by omega)
    refine v_ald (v := vl (h - 2)) C 93 dX9_does_501 (by omega) hE174_93 (ti_in hx176 (by omega) (by omega)) (by rw [ti_cl hx176, show Int.toNat (((h : Int) - 1) - 1) = h - 2 by omega]) ?_
    refine v_ast C 93 dX9_does_502 (by omega) hE174_93 (ti_in hx167 (by omega) (by omega)) (fun E177 hE177_93 oE177 => ?_)
    rw [ti_cl hx167, show Int.toNat ((h : Int) - 1) = h - 1 by omega] at hE177_93
    have hE177_68 := (oE177 68 (by decide)).trans hE174_68
    have hE177_92 := (oE177 92 (by decide)).trans hE174_92
    have hE177_89 := (oE177 89 (by decide)).trans hE174_89
    have hE177_90 := (oE177 90 (by decide)).trans hE174_90
    have hE177_91 := (oE177 91 (by decide)).trans hE174_91
    have hW178 := hW175.of (oE177 68 (by decide)) (oE177 69 (by decide)) (oE177 70 (by decide))
    have hR178 := hR175.go (fun j _ _ => oE177 j (by omega))
    have hS178 := hS175.go (fun j _ _ => oE177 j (by omega))
    refine v_aload_n C 0 dX9_does_503 rfl rfl ?_
    refine v_getr C 68 dX9_does_504 fX9_100 (by omega) hE177_68 rfl rfl ?_
    refine v_iload_n C 3 dX9_does_507 rfl rfl ?_
    refine v_iconst (v := 1) C dX9_does_508 (by decide) ?_
    refine v_isub C dX9_does_509 ?_
    refine v_top (fun x179 ex179 => ?_)
    have hx179 : x179.toInt = (((h : Int) - 1) - 1) := by rw [ex179]; exact ti_sub hx167 (show (1 : Int32).toInt = 1 by decide) (by omega) (by omega)
    refine v_lload C 4 dX9_does_510 rfl ?_
    refine v_l2i C dX9_does_512 rfl ?_
    refine v_top (fun x180 ex180 => ?_)
    have hx180 : x180.toInt = (V (h - 1)) := by rw [ex180]; exact tl_i hx169 (by omega) (by omega)
    refine v_ast C 93 dX9_does_513 (by omega) hE177_93 (ti_in hx179 (by omega) (by omega)) (fun E181 hE181_93 oE181 => ?_)
    rw [ti_cl hx179, show Int.toNat (((h : Int) - 1) - 1) = h - 2 by omega] at hE181_93
    have hE181_68 := (oE181 68 (by decide)).trans hE177_68
    have hE181_92 := (oE181 92 (by decide)).trans hE177_92
    have hE181_89 := (oE181 89 (by decide)).trans hE177_89
    have hE181_90 := (oE181 90 (by decide)).trans hE177_90
    have hE181_91 := (oE181 91 (by decide)).trans hE177_91
    have hW182 := hW178.of (oE181 68 (by decide)) (oE181 69 (by decide)) (oE181 70 (by decide))
    have hR182 := hR178.go (fun j _ _ => oE181 j (by omega))
    have hS182 := hS178.go (fun j _ _ => oE181 j (by omega))
    refine v_iconst (v := 1) C dX9_does_514 (by decide) ?_
    exact v_ret C dX9_does_515 rfl rfl (Or.inl ⟨rfl, updI (updI V (h - 1) (V (h - 2))) (h - 2) (V (h - 1)), _, _, (by rw [ho, VS_11, show ((h : Int) - 1).toNat = h - 1 by omega, show ((h : Int) - 2).toNat = h - 2 by omega]), (by rw [e2, eK]; exact simK_up (h := (h : Int)) (simK_up hsim (hsim (h - 2) (by omega)) (fun j q1 q2 => by omega)) (hsim (h - 1) (by omega)) (fun j q1 q2 => by omega)), (fun j hj => av_up (h := h) (av_up hav ha2 (fun j q1 q2 => by omega)) hx180 (fun j q1 q2 => by omega) j (show j < h by omega)), ⟨_, (fun _ _ _ => rfl), (show Int32.toInt (im 35) = g2 by have := hh; omega), hW182, hS182, hE181_92, hE181_93, fun j g1 g2 g3 g4 g5 => ((oE181 j (by omega)).trans ((oE177 j (by omega)).trans ((oE174 j (by omega)).trans (oE171 j (by omega)))))⟩⟩)

set_option maxRecDepth 20000 in
theorem y_runs (l : Launch) (G : Gl) (n : Nat) (ad : Nat → Nat) (E : Nat → va_E) (hn : 98 ≤ n) {im ic md : Nat → Int32} (hW : MCal G ad E im ic md) {rf rto ron rat rbe rtd rm fv : Nat → Int32} (hR : ZMr G E rf rto ron rat rbe rtd rm fv) {TT : Nat → TST} (hS : ZMs G E 5 TT) (hTT : ∀ z, z < 5 → TT z = TTz ic md rf rto ron rat rbe rtd rm fv (im 18).toInt z) (hV : ∀ z, z < 5 → RZv ic rf rto ron rat rbe rtd rm fv z) {kd vl : Nat → Int32} (h92 : E 92 = aI G 8 kd) (h93 : E 93 = aI G 8 vl) {fo fx fy : Nat → Int32} (h89 : E 89 = aI G 10 fo) (h90 : E 90 = aI G 10 fx) (h91 : E 91 = aI G 10 fy) {k N : Nat} (hk5 : k ≤ 5) (hN10 : N ≤ 10) (hnN : (im 32).toInt = (N : Int)) (hop : ∀ j, j < N → 0 ≤ (fo j).toInt ∧ (fo j).toInt ≤ 11) (hln : ∀ j, j < N → okLn (k : Int) (fo j).toInt (fx j).toInt (fy j).toInt) {Kw : Nat → Int32} (hwh : RSf fo N = some (1, Kw)) (m : Int32) (hm : 0 ≤ m.toInt ∧ m.toInt < 60000000) : CtI l G yX9_runs cX9_runs 4 .boolean 7 174 (n) ad E [.ref (ad 68), .int m] (fun r E' => (r = 1 ∧ ∃ (V1 : Nat → Int) (kd1 vl1 : Nat → Int32), RVf ic md TT fo fx fy m.toInt N = some V1 ∧ (vl1 0).toInt = V1 0 ∧ kd1 0 = Kw 0 ∧ DSt G ad E E' im ic md TT 1 kd1 vl1) ∨ (r = 0 ∧ RVf ic md TT fo fx fy m.toInt N = none ∧ ∃ (g1 : Int) (kd1 vl1 : Nat → Int32), DSt G ad E E' im ic md TT g1 kd1 vl1)) := by
  refine CtI.of (by decide) (Nat.le_of_ble_eq_true rfl) (fun X A C => ?_)
  refine v_sub (lv' := [(0, .ref (ad 68)), (1, .int m)]) [0, 1] rfl ?_
  have hP := hW.2.1
  have h68 := hW.2.2.1
  have hcy := cal_y hP
  have h8T : ∀ z, z < 5 → (TT z).1 ≤ 800 := fun z hz => by rw [hTT z hz]; exact (TTz_ok hP (hV z hz)).2
  have hokT : ∀ z, z < 5 → okT 69300000 (TT z) := fun z hz => by rw [hTT z hz]; exact (TTz_ok hP (hV z hz)).1
  refine v_aload_n C 0 dX9_runs_0 rfl rfl ?_
  refine v_iconst (v := 0) C dX9_runs_1 (by decide) ?_
  refine v_puti C 68 dX9_runs_2 fX9_203 (by omega) h68 rfl rfl rfl rfl (fun E1 hE1_68 oE1 => ?_)
  have hE1_92 := (oE1 92 (by decide)).trans h92
  have hE1_93 := (oE1 93 (by decide)).trans h93
  have hE1_89 := (oE1 89 (by decide)).trans h89
  have hE1_90 := (oE1 90 (by decide)).trans h90
  have hE1_91 := (oE1 91 (by decide)).trans h91
  have hW2 := hW.up (k := 35) (by decide) hE1_68 (fun j hj => oE1 j hj)
  have hT2 : ∀ z, z < 5 → TT z = TTz ic md rf rto ron rat rbe rtd rm fv ((va_up im 35 0) 18).toInt z := hTT
  have hI2 : ∀ q, q ≠ 7 → q ≠ 35 → (va_up im 35 0) q = im q := fun q g1 g2 => (if_neg (by omega)).trans ((fun _ _ _ => rfl) q g1 g2)
  have hR2 := hR.go (fun j _ _ => oE1 j (by omega))
  have hS2 := hS.go (fun j _ _ => oE1 j (by omega))
  refine v_iconst (v := 1) C dX9_runs_5 (by decide) ?_
  refine v_istore_n (lv' := [(0, .ref (ad 68)), (1, .int m), (2, .int 1)]) C [1, 2, 0] dX9_runs_6 rfl (by decide) rfl ?_
  refine v_iconst (v := 0) C dX9_runs_7 (by decide) ?_
  refine v_istore_n (lv' := [(0, .ref (ad 68)), (1, .int m), (2, .int 1), (3, .int 0)]) C [1, 2, 3, 0] dX9_runs_8 rfl (by decide) rfl ?_
  have LP3 : ∀ (t : Nat) (i1 : Nat) (y4 : Int32) (h1 : Nat) (K1 : Nat → Int32) (V1 : Nat → Int) (kd1 : Nat → Int32) (vl1 : Nat → Int32) (E5 : Nat → va_E), (y4.toInt = (i1 : Int)) → (DSt G ad E E5 im ic md TT (h1 : Int) kd1 vl1) → (i1 ≤ N) → (RSf fo i1 = some ((h1 : Int), K1)) → (RVf ic md TT fo fx fy m.toInt i1 = some V1) → (okV ic md (h1 : Int) K1 V1) → (simK (h1 : Int) kd1 K1) → (∀ j, j < h1 → (vl1 j).toInt = V1 j) → (N : Int) - (i1 : Int) < (t : Int) → V X G A 4 (QI X G A (n) ad (fun r E' => (r = 1 ∧ ∃ (V1 : Nat → Int) (kd1 vl1 : Nat → Int32), RVf ic md TT fo fx fy m.toInt N = some V1 ∧ (vl1 0).toInt = V1 0 ∧ kd1 0 = Kw 0 ∧ DSt G ad E E' im ic md TT 1 kd1 vl1) ∨ (r = 0 ∧ RVf ic md TT fo fx fy m.toInt N = none ∧ ∃ (g1 : Int) (kd1 vl1 : Nat → Int32), DSt G ad E E' im ic md TT g1 kd1 vl1))) (n) ad 0 0 E5 9 [(0, .ref (ad 68)), (1, .int m), (2, .int 1), (3, .int y4)] [] := by
    intro t8
    induction t8 with
    | zero => intro i1 y4 h1 K1 V1 kd1 vl1 E5 hy4 hI6 hq7 hRS hRV hoV hsim hav hm10; exfalso; omega
    | succ t8 ih9 =>
      intro i1 y4 h1 K1 V1 kd1 vl1 E5 hy4 hI6 hq7 hRS hRV hoV hsim hav hm10
      obtain ⟨im1, hi1, hi35, hW1, hS1, h92a, h93a, hO1⟩ := id hI6
      have h68a := hW1.2.2.1
      have hR1 := hR.go (fun j g1 g2 => hO1 j (by omega) (by omega) (by omega) (by omega) (by omega))
      have hT1 : ∀ z, z < 5 → TT z = TTz ic md rf rto ron rat rbe rtd rm fv (im1 18).toInt z := fun z hz => by rw [hi1 18 (by decide) (by decide)]; exact hTT z hz
      have h89a := (hO1 89 (by decide) (by decide) (by decide) (by decide) (by decide)).trans h89
      have h90a := (hO1 90 (by decide) (by decide) (by decide) (by decide) (by decide)).trans h90
      have h91a := (hO1 91 (by decide) (by decide) (by decide) (by decide) (by decide)).trans h91
      have hn1 : (im1 32).toInt = (N : Int) := by rw [hi1 32 (by decide) (by decide)]; exact hnN
      have hok := RS_ok i1 _ hRS
      dsimp only at hok
      have hh8 := hok.1
      refine v_iload_n C 3 dX9_runs_9 rfl rfl ?_
      refine v_aload_n C 0 dX9_runs_10 rfl rfl ?_
      refine v_geti (v := im1 32) C 68 dX9_runs_11 fX9_200 (by omega) h68a rfl rfl ?_
      refine b_icmp_ge C 34 dX9_runs_14 (by decide) hy4 hn1 (fun c11 => ?_) (fun c11 => ?_)
      · refine v_iload_n C 2 dX9_runs_34 rfl rfl ?_
        have hiN : i1 = N := by omega
        subst hiN
        rw [hwh] at hRS
        injection hRS with hRS
        injection hRS with q1 q2
        subst q2
        exact v_ret C dX9_runs_35 rfl rfl (Or.inl ⟨rfl, V1, kd1, vl1, hRV, hav 0 (by omega), hsim 0 (by omega), by rw [← q1] at hI6; exact hI6⟩)
      · refine v_iload_n C 2 dX9_runs_17 rfl rfl ?_
        refine b_if_eq C 34 dX9_runs_18 (by decide) (show (1 : Int32).toInt = 1 by decide) (fun c12 => absurd c12 (by decide)) (fun c12 => ?_)
        refine v_aload_n C 0 dX9_runs_21 rfl rfl ?_
        refine v_iload_n C 3 dX9_runs_22 rfl rfl ?_
        refine v_iload_n C 1 dX9_runs_23 rfl rfl ?_
        obtain ⟨⟨g2, K2⟩, hRS1⟩ := RS_all hwh (k := i1 + 1) (by omega)
        have hFT : FTs (fo i1).toInt (h1 : Int) K1 = some (g2, K2) := by rw [← RS_s hRS]; exact hRS1
        have hok2 := RS_ok (i1 + 1) _ hRS1
        dsimp only at hok2
        have hg8 := hok2.1
        have hRV1 := RV_s hRS hRS1 hRV
        dsimp only at hRV1
        refine v_cVi C dX9_runs_24 lX9_249 mX9_does 68 (by omega) h68a (by decide) rfl (y_does l G n ad _ hn hW1 hR1 hS1 hT1 hV h92a h93a hi35 h89a h90a h91a hk5 (by omega) (hop i1 (by omega)) (hln i1 (by omega)) hFT hok hok2 hsim hoV hav y4 m (by have := hy4; omega) hm) ⟨by decide, by decide⟩ rfl (Nat.le_of_ble_eq_true rfl) ⟨Nat.zero_le _, Nat.zero_le _⟩ (fun r13 E14 hq15 => ?_)
        rcases hq15 with ⟨rfl, V2, kd2, vl2, hV2, hs2, ha2, hD2⟩ | ⟨rfl, hV2, g9, kd2, vl2, hD2⟩
        · obtain ⟨im2, u1, u3, u4, u5, u6, u7, u8⟩ := id hD2
          obtain ⟨h2, hh2⟩ : ∃ q : Nat, g2 = (q : Int) := ⟨g2.toNat, by omega⟩
          subst hh2
          have hoV2 := VS_ok hm (hop i1 (by omega)) hok hoV hFT hV2
          have hRV2 : RVf ic md TT fo fx fy m.toInt (i1 + 1) = some V2 := hRV1.trans hV2
          refine v_istore_n (lv' := [(0, .ref (ad 68)), (1, .int m), (2, .int 1), (3, .int y4)]) C [1, 2, 0, 3] dX9_runs_27 rfl (by decide) rfl ?_
          obtain ⟨x16, ex16⟩ : ∃ y : Int32, y = y4 + 1 := ⟨_, rfl⟩
          have hx16 : x16.toInt = ((i1 : Int) + 1) := by rw [ex16]; exact ti_add hy4 (show (1 : Int32).toInt = 1 by decide) (by omega) (by omega)
          refine v_iinc (v := x16) (lv' := [(0, .ref (ad 68)), (1, .int m), (2, .int 1), (3, .int x16)]) C 3 [1, 2, 3, 0] dX9_runs_28 rfl (ex16.symm) (by decide) rfl ?_
          refine v_goto C 9 dX9_runs_31 (by decide) ?_
          exact ih9 (i1 + 1) x16 h2 K2 V2 kd2 vl2 E14 (show Int32.toInt x16 = ((i1 + 1 : Nat) : Int) by have := hx16; omega) (⟨im2, (fun q y1 y2 => (u1 q y1 y2).trans (hi1 q y1 y2)), u3, u4, u5, u6, u7, fun j y1 y2 y3 y4 y5 => (u8 j y1 y2 y3 y4 y5).trans (hO1 j y1 y2 y3 y4 y5)⟩) (by omega) (hRS1) (hRV2) (hoV2) (hs2) (fun j hj => ha2 j (by omega)) (by omega)
        · obtain ⟨im2, u1, u3, u4, u5, u6, u7, u8⟩ := id hD2
          have hRV2 : RVf ic md TT fo fx fy m.toInt (i1 + 1) = none := hRV1.trans hV2
          have e68z := u4.2.2.1
          have hn2 : (im2 32).toInt = (N : Int) := by rw [u1 32 (by decide) (by decide)]; exact hn1
          refine v_istore_n (lv' := [(0, .ref (ad 68)), (1, .int m), (2, .int 0), (3, .int y4)]) C [1, 2, 0, 3] dX9_runs_27 rfl (by decide) rfl ?_
          obtain ⟨x17, ex17⟩ : ∃ y : Int32, y = y4 + 1 := ⟨_, rfl⟩
          have hx17 : x17.toInt = ((i1 : Int) + 1) := by rw [ex17]; exact ti_add hy4 (show (1 : Int32).toInt = 1 by decide) (by omega) (by omega)
          refine v_iinc (v := x17) (lv' := [(0, .ref (ad 68)), (1, .int m), (2, .int 0), (3, .int x17)]) C 3 [1, 2, 3, 0] dX9_runs_28 rfl (ex17.symm) (by decide) rfl ?_
          refine v_goto C 9 dX9_runs_31 (by decide) ?_
          refine v_iload_n C 3 dX9_runs_9 rfl rfl ?_
          refine v_aload_n C 0 dX9_runs_10 rfl rfl ?_
          refine v_geti (v := im2 32) C 68 dX9_runs_11 fX9_200 (by omega) e68z rfl rfl ?_
          refine b_icmp_ge C 34 dX9_runs_14 (by decide) hx17 hn2 (fun c18 => ?_) (fun c18 => ?_)
          · refine v_iload_n C 2 dX9_runs_34 rfl rfl ?_
            exact v_ret C dX9_runs_35 rfl rfl (Or.inr ⟨rfl, RV_n hRV2 N (by omega), _, _, _, ⟨im2, (fun q y1 y2 => (u1 q y1 y2).trans (hi1 q y1 y2)), u3, u4, u5, u6, u7, fun j y1 y2 y3 y4 y5 => (u8 j y1 y2 y3 y4 y5).trans (hO1 j y1 y2 y3 y4 y5)⟩⟩)
          · refine v_iload_n C 2 dX9_runs_17 rfl rfl ?_
            refine b_if_eq C 34 dX9_runs_18 (by decide) (show (0 : Int32).toInt = 0 by decide) (fun c19 => ?_) (fun c19 => absurd c19 (by decide))
            refine v_iload_n C 2 dX9_runs_34 rfl rfl ?_
            exact v_ret C dX9_runs_35 rfl rfl (Or.inr ⟨rfl, RV_n hRV2 N (by omega), _, _, _, ⟨im2, (fun q y1 y2 => (u1 q y1 y2).trans (hi1 q y1 y2)), u3, u4, u5, u6, u7, fun j y1 y2 y3 y4 y5 => (u8 j y1 y2 y3 y4 y5).trans (hO1 j y1 y2 y3 y4 y5)⟩⟩)
  exact LP3 100000 0 0 0 (fun _ => 0) (fun _ => 0) kd vl E1 (show Int32.toInt 0 = ((0 : Nat) : Int) by have := (show (0 : Int32).toInt = 0 by decide); omega) (⟨_, (fun q y1 y2 => if_neg y2), (show (0 : Int32).toInt = ((0 : Nat) : Int) by decide), hW2, hS2, hE1_92, hE1_93, fun j y1 y2 y3 y4 y5 => (oE1 j (by omega))⟩) (by omega) (rfl) (rfl) (fun j hj => absurd hj (by omega)) (fun j hj => absurd hj (by omega)) (fun j hj => absurd hj (by omega)) (by omega)

