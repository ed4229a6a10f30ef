set_option maxRecDepth 20000 in
theorem y_mend (l : Launch) (G : Gl) (n : Nat) (ad : Nat → Nat) (E : Nat → va_E) (hn : 98 ≤ n) {im ic md : Nat → Int32} (hW : MCal G ad E im ic md) {rf rto ron rat rbe rtd rm fv : Nat → Int32} (hR : ZMr G E rf rto ron rat rbe rtd rm fv) {TT : Nat → TST} (hS : ZMs G E 5 TT) (hTT : ∀ z, z < 5 → TT z = TTz ic md rf rto ron rat rbe rtd rm fv (im 18).toInt z) (hV : ∀ z, z < 5 → RZv ic rf rto ron rat rbe rtd rm fv z) {gop gx gy fl o0 x0 y0 : Nat → Int32} (h85 : E 85 = aI G 60 gop) (h86 : E 86 = aI G 60 gx) (h87 : E 87 = aI G 60 gy) (h88 : E 88 = aI G 6 fl) (h89 : E 89 = aI G 10 o0) (h90 : E 90 = aI G 10 x0) (h91 : E 91 = aI G 10 y0) {kd vl k0 k1 k2 : Nat → Int32} (h92 : E 92 = aI G 8 kd) (h93 : E 93 = aI G 8 vl) (h94 : E 94 = aI G 10 k0) (h95 : E 95 = aI G 10 k1) (h96 : E 96 = aI G 10 k2) {od : Nat → Int32} (h97 : E 97 = aI G 40000 od) {k : Nat} (hk : (im 16).toInt = (k : Int)) (hk5 : k ≤ 5) (hbl : ∀ i, 0 ≤ (fl i).toInt ∧ (fl i).toInt ≤ 10) (hOP : OPg gop) (hLN : LOK k fl gop gx gy) (h32 : 0 ≤ (im 32).toInt ∧ (im 32).toInt ≤ 10) (p : Int32) (x : Int32) (v : Int32) (a : Int32) (c : Int32) : CtI l G yX9_mend cX9_mend 7 .int 12 298 (n) ad E [.ref (ad 68), .int p, .int x, .int v, .int a, .int c] (fun r E' => MNq k ic md TT (YSf md (ic 4).toInt (ic 5).toInt 100) fl gop gx gy p.toInt x.toInt v.toInt a.toInt c.toInt r.toInt) := by
  refine CtI.of (by decide) (Nat.le_of_ble_eq_true rfl) (fun X A C => ?_)
  refine v_sub (lv' := [(0, .ref (ad 68)), (1, .int p), (2, .int x), (3, .int v), (4, .int a), (5, .int c)]) [0, 1, 2, 3, 4, 5] rfl ?_
  have hP := hW.2.1
  have h68 := hW.2.2.1
  have hcy := cal_y hP
  have h8T : ∀ z, z < 5 → (TT z).1 ≤ 800 := fun z hz => by rw [hTT z hz]; exact (TTz_ok hP (hV z hz)).2
  have hokT : ∀ z, z < 5 → okT 69300000 (TT z) := fun z hz => by rw [hTT z hz]; exact (TTz_ok hP (hV z hz)).1
  refine v_iload_n C 1 dX9_mend_0 rfl rfl ?_
  refine v_cSp C dX9_mend_1 lX9_194 mX9_isProgram (y_isProgram l G _ ad _  p) ⟨by decide, by decide⟩ rfl (Nat.le_of_ble_eq_true rfl) ⟨Nat.zero_le _, Nat.zero_le _⟩ (fun r1 hp2 => ?_)
  rcases hp2 with ⟨rfl, hp2⟩ | ⟨rfl, hp2⟩
  · refine b_if_eq C 29 dX9_mend_4 (by decide) (show (1 : Int32).toInt = 1 by decide) (fun c3 => absurd c3 (by decide)) (fun c3 => ?_)
    refine v_aload_n C 0 dX9_mend_7 rfl rfl ?_
    refine v_iload_n C 2 dX9_mend_8 rfl rfl ?_
    refine v_iload_n C 3 dX9_mend_9 rfl rfl ?_
    refine v_cVp C dX9_mend_10 lX9_259 mX9_isLaw 68 (by omega) h68 (by decide) rfl (y_isLaw l G n ad _ hn h68 hk x v) ⟨by decide, by decide⟩ rfl (Nat.le_of_ble_eq_true rfl) ⟨Nat.zero_le _, Nat.zero_le _⟩ (fun r4 hp5 => ?_)
    rcases hp5 with ⟨rfl, hlw⟩ | ⟨rfl, hlw⟩
    · refine b_if_eq C 29 dX9_mend_13 (by decide) (show (1 : Int32).toInt = 1 by decide) (fun c6 => absurd c6 (by decide)) (fun c6 => ?_)
      refine v_iload C 4 dX9_mend_16 rfl ?_
      refine v_iload C 5 dX9_mend_18 rfl ?_
      refine v_ldcw C dX9_mend_20 kX9_298 ?_
      refine v_cSp C dX9_mend_23 lX9_283 mX9_isRow (y_isRow l G _ ad _ a c 100000 (by decide)) ⟨by decide, by decide⟩ rfl (Nat.le_of_ble_eq_true rfl) ⟨Nat.zero_le _, Nat.zero_le _⟩ (fun r7 hp8 => ?_)
      rw [show (100000 : Int32).toInt = 100000 by decide] at hp8
      rcases hp8 with ⟨rfl, hrw⟩ | ⟨rfl, hrw⟩
      · have hrx := hrw
        unfold okRow at hrx
        refine b_if_ne C 31 dX9_mend_26 (by decide) (show (1 : Int32).toInt = 1 by decide) (fun c9 => ?_) (fun c9 => absurd c9 (by decide))
        refine v_aload_n C 0 dX9_mend_31 rfl rfl ?_
        refine v_iload C 4 dX9_mend_32 rfl ?_
        refine v_iload C 4 dX9_mend_34 rfl ?_
        refine v_iload C 5 dX9_mend_36 rfl ?_
        refine v_iadd C dX9_mend_38 ?_
        refine v_top (fun x10 ex10 => ?_)
        have hx10 : x10.toInt = (a.toInt + c.toInt) := by rw [ex10]; exact ti_add (rfl : Int32.toInt a = _) (rfl : Int32.toInt c = _) (by omega) (by omega)
        obtain ⟨pp, hp⟩ : ∃ q : Nat, p.toInt = (q : Int) := ⟨p.toInt.toNat, by omega⟩
        have hpp : pp < 6 := by omega
        have hit : p.toInt.toNat = pp := by omega
        have hbi := hbl pp
        obtain ⟨N, hN⟩ : ∃ q : Nat, (fl pp).toInt = (q : Int) := ⟨(fl pp).toInt.toNat, by omega⟩
        have hNt : (fl pp).toInt.toNat = N := by omega
        have hN10 : N ≤ 10 := by omega
        have hlsP : okLs k N (fP gop pp) (fP gx pp) (fP gy pp) := fun j hj => hLN pp hpp j (by omega)
        have hxe := hx10
        have hab : okOD a.toInt x10.toInt := by unfold okOD; omega
        refine v_cVv C dX9_mend_39 lX9_280 mX9_findOdds 68 (by omega) h68 (by decide) rfl (y_findOdds l G n ad _ hn hW hR hS hTT hV h97 hk hk5 a x10 hab) ⟨by decide, by decide⟩ rfl (Nat.le_of_ble_eq_true rfl) ⟨Nat.zero_le _, Nat.zero_le _⟩ (fun E11 hq12 => ?_)
        obtain ⟨im7, od7, L, f1, f2, f3, f4, f5, f6, f7, f8⟩ := hq12
        have hrg : ∀ q, q < L → 0 ≤ (od7 q).toInt ∧ (od7 q).toInt < 60000000 := fun q hq => by have g : a.toInt ≤ (od7 q).toInt ∧ (od7 q).toInt ≤ x10.toInt := (f7.2.1 q hq).1; have h9 := hab; unfold okOD at h9; omega
        rw [hxe] at f7
        have hen := f7
        have hL4 := f3
        have hR7 := hR.go (fun j g1 g2 => f8 j (by omega) (by omega) (by omega) (by omega))
        have hT7 : ∀ z, z < 5 → TT z = TTz ic md rf rto ron rat rbe rtd rm fv (im7 18).toInt z := fun z hz => by rw [f1 18 (by decide) (by decide)]; exact hTT z hz
        have hk7 : (im7 16).toInt = (k : Int) := by rw [f1 16 (by decide) (by decide)]; exact hk
        have h327 : 0 ≤ (im7 32).toInt ∧ (im7 32).toInt ≤ 10 := by rw [f1 32 (by decide) (by decide)]; exact h32
        have b85 := (f8 85 (by decide) (by decide) (by omega) (by decide)).trans h85
        have b86 := (f8 86 (by decide) (by decide) (by omega) (by decide)).trans h86
        have b87 := (f8 87 (by decide) (by decide) (by omega) (by decide)).trans h87
        have b88 := (f8 88 (by decide) (by decide) (by omega) (by decide)).trans h88
        have b89 := (f8 89 (by decide) (by decide) (by omega) (by decide)).trans h89
        have b90 := (f8 90 (by decide) (by decide) (by omega) (by decide)).trans h90
        have b91 := (f8 91 (by decide) (by decide) (by omega) (by decide)).trans h91
        have b92 := (f8 92 (by decide) (by decide) (by omega) (by decide)).trans h92
        have b93 := (f8 93 (by decide) (by decide) (by omega) (by decide)).trans h93
        have b94 := (f8 94 (by decide) (by decide) (by omega) (by decide)).trans h94
        have b95 := (f8 95 (by decide) (by decide) (by omega) (by decide)).trans h95
        have b96 := (f8 96 (by decide) (by decide) (by omega) (by decide)).trans h96
        have hM7 : MSs G ad E11 E11 im7 ic md TT := ⟨o0, x0, y0, kd, vl, im7, fun _ _ _ _ => rfl, h327, f4, f5, b89, b90, b91, b92, b93, fun _ _ _ _ _ => rfl⟩
        obtain ⟨o13, x13, y13, kd13, vl13, im13, a13, b3213, W13, S13, r8913, r9013, r9113, r9213, r9313, O13⟩ := id hM7
        have e6813 := W13.2.2.1
        have f8813 := (O13 88 (by decide) (by decide) (by omega) (by omega)).trans b88
        refine v_aload_n C 0 dX9_mend_42 rfl rfl ?_
        refine v_iload_n C 1 dX9_mend_43 rfl rfl ?_
        refine v_cVv C dX9_mend_44 lX9_219 mX9_take 68 (by omega) e6813 (by decide) rfl (y_take l G n ad _ hn e6813 ((O13 85 (by decide) (by decide) (by omega) (by omega)).trans b85) ((O13 86 (by decide) (by decide) (by omega) (by omega)).trans b86) ((O13 87 (by decide) (by decide) (by omega) (by omega)).trans b87) f8813 r8913 r9013 r9113 p hp hpp hN hN10) ⟨by decide, by decide⟩ rfl (Nat.le_of_ble_eq_true rfl) ⟨Nat.zero_le _, Nat.zero_le _⟩ (fun E14 hq15 => ?_)
        obtain ⟨fo16, fx16, fy16, t6816, t8916, t9016, t9116, ag16, T16⟩ := hq15
        have tW16 := W13.same (im1 := va_up im13 32 (fl pp)) (fun q hq => if_neg (by omega)) t6816 (T16 69 (by decide) (by decide) (by decide) (by decide)) (T16 70 (by decide) (by decide) (by decide) (by decide))
        have tS16 := S13.go (fun j g1 g2 => T16 j (by omega) (by omega) (by omega) (by omega))
        have tO16 : ∀ j, j ≠ 68 → j ≠ 70 → (j < 79 ∨ 84 < j) → (j < 89 ∨ 93 < j) → E14 j = E11 j := fun j g1 g2 g3 g4 => (T16 j g1 (by omega) (by omega) (by omega)).trans (O13 j g1 g2 g3 g4)
        have ti16 : ∀ q, q ≠ 7 → q ≠ 32 → q ≠ 35 → va_up im13 32 (fl pp) q = im7 q := fun q g1 g2 g3 => (if_neg g2).trans (a13 q g1 g2 g3)
        have tR16 := hR7.go (fun j g1 g2 => tO16 j (by omega) (by omega) (by omega) (by omega))
        have tT16 : ∀ z, z < 5 → TT z = TTz ic md rf rto ron rat rbe rtd rm fv (va_up im13 32 (fl pp) 18).toInt z := fun z hz => by rw [ti16 18 (by decide) (by decide) (by decide)]; exact hT7 z hz
        have tk16 : (va_up im13 32 (fl pp) 16).toInt = (k : Int) := by rw [ti16 16 (by decide) (by decide) (by decide)]; exact hk7
        have tL16 : (va_up im13 32 (fl pp) 41).toInt = (L : Int) := by rw [ti16 41 (by decide) (by decide) (by decide)]; exact f2
        have tn16 : (va_up im13 32 (fl pp) 32).toInt = (N : Int) := hN
        have tb16 : 0 ≤ (va_up im13 32 (fl pp) 32).toInt ∧ (va_up im13 32 (fl pp) 32).toInt ≤ 10 := by omega
        have t9216 := (T16 92 (by decide) (by decide) (by decide) (by decide)).trans r9213
        have t9316 := (T16 93 (by decide) (by decide) (by decide) (by decide)).trans r9313
        have t9716 := (tO16 97 (by decide) (by decide) (by omega) (by omega)).trans f6
        have t8816 := (tO16 88 (by decide) (by decide) (by omega) (by omega)).trans b88
        have ls16 : okLs k N fo16 fx16 fy16 := okLs_cg (fun q hq => ag16 q hq) hlsP
        have tM16 : MSs G ad E11 E14 im7 ic md TT := MSs.next ti16 tb16 tO16 t8916 t9016 t9116 ⟨kd13, vl13, va_up im13 32 (fl pp), fun _ _ _ => rfl, tW16, tS16, t9216, t9316, fun _ _ _ _ _ _ => rfl⟩
        refine v_aload_n C 0 dX9_mend_47 rfl rfl ?_
        refine v_iload_n C 2 dX9_mend_48 rfl rfl ?_
        refine v_iload_n C 3 dX9_mend_49 rfl rfl ?_
        refine v_cVi C dX9_mend_50 lX9_295 mX9_isRight 68 (by omega) t6816 (by decide) rfl (y_isRight l G n ad _ hn tW16 tR16 tS16 tT16 hV t9216 t9316 t8916 t9016 t9116 hk5 hN10 tn16 ls16 t9716 tL16 hL4 hrg x v hlw) ⟨by decide, by decide⟩ rfl (Nat.le_of_ble_eq_true rfl) ⟨Nat.zero_le _, Nat.zero_le _⟩ (fun r17 E18 hq19 => ?_)
        obtain ⟨hri20, hFr20⟩ := hq19
        have hMr20 := MSs.next ti16 tb16 tO16 t8916 t9016 t9116 hFr20
        have hrt20 := (RT_list (ic := ic) (md := md) (law := x.toInt) (v := v.toInt) (N := N) (fo := fo16) (fx := fx16) (fy := fy16) hen).symm.trans (RT_cg (fun q hq => ag16 q hq))
        rcases hri20 with ⟨rfl, hrz20⟩ | ⟨rfl, hrz20⟩
        · have hri20 := hrt20.mp hrz20
          obtain ⟨o21, x21, y21, kd21, vl21, im21, a21, b3221, W21, S21, r8921, r9021, r9121, r9221, r9321, O21⟩ := id hMr20
          have e6821 := W21.2.2.1
          have f8821 := (O21 88 (by decide) (by decide) (by omega) (by omega)).trans b88
          refine b_if_eq C 60 dX9_mend_53 (by decide) (show (1 : Int32).toInt = 1 by decide) (fun c22 => absurd c22 (by decide)) (fun c22 => ?_)
          refine v_iconst (v := 0) C dX9_mend_56 (by decide) ?_
          refine v_goto C 90 dX9_mend_57 (by decide) ?_
          refine v_istore (lv' := [(0, .ref (ad 68)), (1, .int p), (2, .int x), (3, .int v), (4, .int a), (5, .int c), (6, .int 0)]) C [1, 2, 3, 4, 5, 6, 0] dX9_mend_90 (by decide) rfl ?_
          refine v_iload C 6 dX9_mend_92 rfl ?_
          refine b_if_lt C 101 dX9_mend_94 (by decide) (show (0 : Int32).toInt = 0 by decide) (fun c23 => absurd c23 (by decide)) (fun c23 => ?_)
          refine v_aload_n C 0 dX9_mend_97 rfl rfl ?_
          refine v_cVv C dX9_mend_98 lX9_305 mX9_keepMended 68 (by omega) e6821 (by decide) rfl (y_keepMended l G n ad _ hn e6821 r8921 r9021 r9121 ((O21 94 (by decide) (by decide) (by omega) (by omega)).trans b94) ((O21 95 (by decide) (by decide) (by omega) (by omega)).trans b95) ((O21 96 (by decide) (by decide) (by omega) (by omega)).trans b96) b3221) ⟨by decide, by decide⟩ rfl (Nat.le_of_ble_eq_true rfl) ⟨Nat.zero_le _, Nat.zero_le _⟩ (fun E24 hq25 => ?_)
          refine v_iload C 6 dX9_mend_101 rfl ?_
          exact v_ret C dX9_mend_103 rfl rfl (Or.inr ⟨⟨by omega, hlw, hrw⟩, (by rw [hit, hNt]; exact Or.inl ⟨hri20, by decide⟩)⟩)
        · have hri20 := fun z => hrz20 (hrt20.mpr z)
          obtain ⟨o26, x26, y26, kd26, vl26, im26, a26, b3226, W26, S26, r8926, r9026, r9126, r9226, r9326, O26⟩ := id hMr20
          have e6826 := W26.2.2.1
          have f8826 := (O26 88 (by decide) (by decide) (by omega) (by omega)).trans b88
          refine b_if_eq C 60 dX9_mend_53 (by decide) (show (0 : Int32).toInt = 0 by decide) (fun c27 => ?_) (fun c27 => absurd c27 (by decide))
          refine v_aload_n C 0 dX9_mend_60 rfl rfl ?_
          refine v_iload_n C 1 dX9_mend_61 rfl rfl ?_
          refine v_iload_n C 2 dX9_mend_62 rfl rfl ?_
          refine v_iload_n C 3 dX9_mend_63 rfl rfl ?_
          have uR31 := hR7.go (fun j g1 g2 => O26 j (by omega) (by omega) (by omega) (by omega))
          have uT31 : ∀ z, z < 5 → TT z = TTz ic md rf rto ron rat rbe rtd rm fv (im26 18).toInt z := fun z hz => by rw [a26 18 (by decide) (by decide) (by decide)]; exact hT7 z hz
          have uk31 : (im26 16).toInt = (k : Int) := by rw [a26 16 (by decide) (by decide) (by decide)]; exact hk7
          have uL31 : (im26 41).toInt = (L : Int) := by rw [a26 41 (by decide) (by decide) (by decide)]; exact f2
          refine v_cVi C dX9_mend_64 lX9_299 mX9_mendsOne 68 (by omega) e6826 (by decide) rfl (y_mendsOne l G n ad _ hn W26 uR31 S26 uT31 hV ((O26 85 (by decide) (by decide) (by omega) (by omega)).trans b85) ((O26 86 (by decide) (by decide) (by omega) (by omega)).trans b86) ((O26 87 (by decide) (by decide) (by omega) (by omega)).trans b87) f8826 r8926 r9026 r9126 r9226 r9326 ((O26 97 (by decide) (by decide) (by omega) (by omega)).trans f6) uL31 hL4 hrg uk31 hk5 hOP hLN hpp hN hN10 b3226 hen p x v hp hlw) ⟨by decide, by decide⟩ rfl (Nat.le_of_ble_eq_true rfl) ⟨Nat.zero_le _, Nat.zero_le _⟩ (fun r28 E29 hq30 => ?_)
          obtain ⟨hm1, hMs31⟩ := hq30
          have hMt31 := MSs.tr a26 O26 hMs31
          rcases hm1 with ⟨rfl, hm1⟩ | ⟨rfl, hm1⟩
          · obtain ⟨o32, x32, y32, kd32, vl32, im32, a32, b3232, W32, S32, r8932, r9032, r9132, r9232, r9332, O32⟩ := id hMt31
            have e6832 := W32.2.2.1
            have f8832 := (O32 88 (by decide) (by decide) (by omega) (by omega)).trans b88
            refine b_if_eq C 74 dX9_mend_67 (by decide) (show (1 : Int32).toInt = 1 by decide) (fun c33 => absurd c33 (by decide)) (fun c33 => ?_)
            refine v_iconst (v := 1) C dX9_mend_70 (by decide) ?_
            refine v_goto C 90 dX9_mend_71 (by decide) ?_
            refine v_istore (lv' := [(0, .ref (ad 68)), (1, .int p), (2, .int x), (3, .int v), (4, .int a), (5, .int c), (6, .int 1)]) C [1, 2, 3, 4, 5, 6, 0] dX9_mend_90 (by decide) rfl ?_
            refine v_iload C 6 dX9_mend_92 rfl ?_
            refine b_if_lt C 101 dX9_mend_94 (by decide) (show (1 : Int32).toInt = 1 by decide) (fun c34 => absurd c34 (by decide)) (fun c34 => ?_)
            refine v_aload_n C 0 dX9_mend_97 rfl rfl ?_
            refine v_cVv C dX9_mend_98 lX9_305 mX9_keepMended 68 (by omega) e6832 (by decide) rfl (y_keepMended l G n ad _ hn e6832 r8932 r9032 r9132 ((O32 94 (by decide) (by decide) (by omega) (by omega)).trans b94) ((O32 95 (by decide) (by decide) (by omega) (by omega)).trans b95) ((O32 96 (by decide) (by decide) (by omega) (by omega)).trans b96) b3232) ⟨by decide, by decide⟩ rfl (Nat.le_of_ble_eq_true rfl) ⟨Nat.zero_le _, Nat.zero_le _⟩ (fun E35 hq36 => ?_)
            refine v_iload C 6 dX9_mend_101 rfl ?_
            exact v_ret C dX9_mend_103 rfl rfl (Or.inr ⟨⟨by omega, hlw, hrw⟩, (by rw [hit, hNt]; exact Or.inr (Or.inl ⟨hri20, hm1, by decide⟩))⟩)
          · obtain ⟨o37, x37, y37, kd37, vl37, im37, a37, b3237, W37, S37, r8937, r9037, r9137, r9237, r9337, O37⟩ := id hMt31
            have e6837 := W37.2.2.1
            have f8837 := (O37 88 (by decide) (by decide) (by omega) (by omega)).trans b88
            refine b_if_eq C 74 dX9_mend_67 (by decide) (show (0 : Int32).toInt = 0 by decide) (fun c38 => ?_) (fun c38 => absurd c38 (by decide))
            refine v_aload_n C 0 dX9_mend_74 rfl rfl ?_
            refine v_iload_n C 1 dX9_mend_75 rfl rfl ?_
            refine v_iload_n C 2 dX9_mend_76 rfl rfl ?_
            refine v_iload_n C 3 dX9_mend_77 rfl rfl ?_
            have uR42 := hR7.go (fun j g1 g2 => O37 j (by omega) (by omega) (by omega) (by omega))
            have uT42 : ∀ z, z < 5 → TT z = TTz ic md rf rto ron rat rbe rtd rm fv (im37 18).toInt z := fun z hz => by rw [a37 18 (by decide) (by decide) (by decide)]; exact hT7 z hz
            have uk42 : (im37 16).toInt = (k : Int) := by rw [a37 16 (by decide) (by decide) (by decide)]; exact hk7
            have uL42 : (im37 41).toInt = (L : Int) := by rw [a37 41 (by decide) (by decide) (by decide)]; exact f2
            refine v_cVi C dX9_mend_78 lX9_302 mX9_mendsTwo 68 (by omega) e6837 (by decide) rfl (y_mendsTwo l G n ad _ hn W37 uR42 S37 uT42 hV ((O37 85 (by decide) (by decide) (by omega) (by omega)).trans b85) ((O37 86 (by decide) (by decide) (by omega) (by omega)).trans b86) ((O37 87 (by decide) (by decide) (by omega) (by omega)).trans b87) f8837 r8937 r9037 r9137 r9237 r9337 ((O37 97 (by decide) (by decide) (by omega) (by omega)).trans f6) uL42 hL4 hrg uk42 hk5 hOP hLN hpp hN hN10 b3237 hen p x v hp hlw) ⟨by decide, by decide⟩ rfl (Nat.le_of_ble_eq_true rfl) ⟨Nat.zero_le _, Nat.zero_le _⟩ (fun r39 E40 hq41 => ?_)
            obtain ⟨hm2, hMs42⟩ := hq41
            have hMt42 := MSs.tr a37 O37 hMs42
            rcases hm2 with ⟨rfl, hm2⟩ | ⟨rfl, hm2⟩
            · obtain ⟨o43, x43, y43, kd43, vl43, im43, a43, b3243, W43, S43, r8943, r9043, r9143, r9243, r9343, O43⟩ := id hMt42
              have e6843 := W43.2.2.1
              have f8843 := (O43 88 (by decide) (by decide) (by omega) (by omega)).trans b88
              refine b_if_eq C 88 dX9_mend_81 (by decide) (show (1 : Int32).toInt = 1 by decide) (fun c44 => absurd c44 (by decide)) (fun c44 => ?_)
              refine v_iconst (v := 2) C dX9_mend_84 (by decide) ?_
              refine v_goto C 90 dX9_mend_85 (by decide) ?_
              refine v_istore (lv' := [(0, .ref (ad 68)), (1, .int p), (2, .int x), (3, .int v), (4, .int a), (5, .int c), (6, .int 2)]) C [1, 2, 3, 4, 5, 6, 0] dX9_mend_90 (by decide) rfl ?_
              refine v_iload C 6 dX9_mend_92 rfl ?_
              refine b_if_lt C 101 dX9_mend_94 (by decide) (show (2 : Int32).toInt = 2 by decide) (fun c45 => absurd c45 (by decide)) (fun c45 => ?_)
              refine v_aload_n C 0 dX9_mend_97 rfl rfl ?_
              refine v_cVv C dX9_mend_98 lX9_305 mX9_keepMended 68 (by omega) e6843 (by decide) rfl (y_keepMended l G n ad _ hn e6843 r8943 r9043 r9143 ((O43 94 (by decide) (by decide) (by omega) (by omega)).trans b94) ((O43 95 (by decide) (by decide) (by omega) (by omega)).trans b95) ((O43 96 (by decide) (by decide) (by omega) (by omega)).trans b96) b3243) ⟨by decide, by decide⟩ rfl (Nat.le_of_ble_eq_true rfl) ⟨Nat.zero_le _, Nat.zero_le _⟩ (fun E46 hq47 => ?_)
              refine v_iload C 6 dX9_mend_101 rfl ?_
              exact v_ret C dX9_mend_103 rfl rfl (Or.inr ⟨⟨by omega, hlw, hrw⟩, (by rw [hit, hNt]; exact Or.inr (Or.inr (Or.inl ⟨hri20, hm1, hm2, by decide⟩)))⟩)
            · obtain ⟨o48, x48, y48, kd48, vl48, im48, a48, b3248, W48, S48, r8948, r9048, r9148, r9248, r9348, O48⟩ := id hMt42
              have e6848 := W48.2.2.1
              have f8848 := (O48 88 (by decide) (by decide) (by omega) (by omega)).trans b88
              refine b_if_eq C 88 dX9_mend_81 (by decide) (show (0 : Int32).toInt = 0 by decide) (fun c49 => ?_) (fun c49 => absurd c49 (by decide))
              refine v_bipush (v := (-6)) C dX9_mend_88 (by decide) ?_
              refine v_istore (lv' := [(0, .ref (ad 68)), (1, .int p), (2, .int x), (3, .int v), (4, .int a), (5, .int c), (6, .int (-6))]) C [1, 2, 3, 4, 5, 6, 0] dX9_mend_90 (by decide) rfl ?_
              refine v_iload C 6 dX9_mend_92 rfl ?_
              refine b_if_lt C 101 dX9_mend_94 (by decide) (show ((-6) : Int32).toInt = (-6) by decide) (fun c50 => ?_) (fun c50 => absurd c50 (by decide))
              refine v_iload C 6 dX9_mend_101 rfl ?_
              exact v_ret C dX9_mend_103 rfl rfl (Or.inr ⟨⟨by omega, hlw, hrw⟩, (by rw [hit, hNt]; exact Or.inr (Or.inr (Or.inr ⟨hri20, hm1, hm2, by decide⟩)))⟩)
      · refine b_if_ne C 31 dX9_mend_26 (by decide) (show (0 : Int32).toInt = 0 by decide) (fun c51 => absurd c51 (by decide)) (fun c51 => ?_)
        refine v_iconst (v := (-1)) C dX9_mend_29 (by decide) ?_
        exact v_ret C dX9_mend_30 rfl rfl (Or.inl ⟨(fun q => by obtain ⟨q1, q2, q3⟩ := q; first | exact absurd q2 hlw | exact absurd q3 hrw | omega), by decide⟩)
    · refine b_if_eq C 29 dX9_mend_13 (by decide) (show (0 : Int32).toInt = 0 by decide) (fun c52 => ?_) (fun c52 => absurd c52 (by decide))
      refine v_iconst (v := (-1)) C dX9_mend_29 (by decide) ?_
      exact v_ret C dX9_mend_30 rfl rfl (Or.inl ⟨(fun q => by obtain ⟨q1, q2, q3⟩ := q; first | exact absurd q2 hlw | exact absurd q3 hrw | omega), by decide⟩)
  · refine b_if_eq C 29 dX9_mend_4 (by decide) (show (0 : Int32).toInt = 0 by decide) (fun c53 => ?_) (fun c53 => absurd c53 (by decide))
    refine v_iconst (v := (-1)) C dX9_mend_29 (by decide) ?_
    exact v_ret C dX9_mend_30 rfl rfl (Or.inl ⟨(fun q => by obtain ⟨q1, q2, q3⟩ := q; first | exact absurd q2 hlw | exact absurd q3 hrw | omega), by decide⟩)

