set_option maxRecDepth 20000 in
theorem t_X9_take (l : Launch) (G : Gl) (ad : Nat → Nat) {n : Nat} {ic md : Nat → Int32} {bd : Nat → Int × Int} {E0 E : Nat → va_E} (hJ : JM G ad n ic md bd PT E0 E) {gop gx gy fl : Nat → Int32} (hgo : E0 85 = aI G 60 gop) (hgx : E0 86 = aI G 60 gx) (hgy : E0 87 = aI G 60 gy) (hgl : E0 88 = aI G 6 fl) (hbl : ∀ k, 0 ≤ (fl k).toInt ∧ (fl k).toInt ≤ 10) (x : Int32) (hx : (0 : Int) ≤ x.toInt ∧ x.toInt ≤ 5) : CtV l G yX9_take cX9_take 3 0 0 (n) ad E [.ref (ad 68), .int x] (fun E' => ∃ fo fx fy : Nat → Int32, E' 89 = aI G 10 fo ∧ E' 90 = aI G 10 fx ∧ E' 91 = aI G 10 fy ∧ (∀ j, j < ((fl (x.toInt).toNat).toInt).toNat → fo j = gop (10 * (x.toInt).toNat + j) ∧ fx j = gx (10 * (x.toInt).toNat + j) ∧ fy j = gy (10 * (x.toInt).toNat + j)) ∧ JM G ad n ic md (upB bd 32 ((fl (x.toInt).toNat).toInt, (fl (x.toInt).toNat).toInt)) PT E0 E') := by
  refine CtV.of (by decide) (Nat.le_of_ble_eq_true rfl) (fun X A C => ?_)
  refine v_sub (lv' := [(0, .ref (ad 68)), (1, .int x)]) [0, 1] rfl ?_
  have hn := hJ.hn
  have hz16 := hJ.2.2.2.2
  refine v_aload_n C 0 dX9_take_0 rfl rfl ?_
  refine v_aload_n C 0 dX9_take_1 rfl rfl ?_
  obtain ⟨im1, hM1, hb1⟩ := hJ.1
  have hq1 := hM1.b
  refine v_getr C 68 dX9_take_2 fX9_85 (by omega) hM1.2.2.1 rfl rfl ?_
  refine v_iload_n C 1 dX9_take_5 rfl rfl ?_
  have hE2 := (hJ.2.1.1 88 (by unfold PT; omega)).trans hgl
  refine v_ald (v := fl (x.toInt).toNat) C 88 dX9_take_6 (by omega) hE2 (ti_in (rfl : Int32.toInt x = _) (by omega) (by omega)) (by rw [ti_cl (rfl : Int32.toInt x = _)]) ?_
  have := hbl ((x.toInt).toNat)
  refine v_puti C 68 dX9_take_7 fX9_200 (by omega) hM1.2.2.1 rfl rfl rfl rfl (fun E3 hE3_68 oE3 => ?_)
  have hE3_88 := (oE3 88 (by decide)).trans hE2
  obtain ⟨hJ4, hM5, hb6⟩ := hJ.putN hM1 hb1 (k := 32) (v := (fl (x.toInt).toNat)) (by decide) (by unfold PT; omega) hE3_68 oE3
  refine v_iconst (v := 0) C dX9_take_10 (by decide) ?_
  refine v_istore_n (lv' := [(0, .ref (ad 68)), (1, .int x), (2, .int 0)]) C [1, 2, 0] dX9_take_11 rfl (by decide) rfl ?_
  have LP7 : ∀ (t : Nat) (E11 : Nat → va_E) (y8 : Int32), JM G ad n ic md (upB bd 32 ((fl (x.toInt).toNat).toInt, (fl (x.toInt).toNat).toInt)) PT E0 E11 → ((0 : Int) ≤ y8.toInt ∧ y8.toInt ≤ 10) → (y8.toInt ≤ (fl (x.toInt).toNat).toInt) → (TK G gop gx gy (10 * (x.toInt).toNat) E11 (y8.toInt).toNat) → 11 - y8.toInt < (t : Int) → V X G A 3 (QV X G A (n) ad (fun E' => ∃ fo fx fy : Nat → Int32, E' 89 = aI G 10 fo ∧ E' 90 = aI G 10 fx ∧ E' 91 = aI G 10 fy ∧ (∀ j, j < ((fl (x.toInt).toNat).toInt).toNat → fo j = gop (10 * (x.toInt).toNat + j) ∧ fx j = gx (10 * (x.toInt).toNat + j) ∧ fy j = gy (10 * (x.toInt).toNat + j)) ∧ JM G ad n ic md (upB bd 32 ((fl (x.toInt).toNat).toInt, (fl (x.toInt).toNat).toInt)) PT E0 E')) n ad 0 0 E11 12 [(0, .ref (ad 68)), (1, .int x), (2, .int y8)] [] := by
    intro t15
    induction t15 with
    | zero => intro E11 y8 hJ12 hy8 hq9 hq10 hm14; exfalso; omega
    | succ t15 ih13 =>
      intro E11 y8 hJ12 hy8 hq9 hq10 hm14
      refine v_iload_n C 2 dX9_take_12 rfl rfl ?_
      refine v_aload_n C 0 dX9_take_13 rfl rfl ?_
      obtain ⟨im16, hM16, hb16⟩ := hJ12.1
      have hq16 := hM16.b
      refine v_geti (v := im16 32) C 68 dX9_take_14 fX9_200 (by omega) hM16.2.2.1 rfl rfl ?_
      have him16_32 : ((fl (x.toInt).toNat).toInt : Int) ≤ (im16 32).toInt ∧ (im16 32).toInt ≤ (fl (x.toInt).toNat).toInt := hb16 32
      refine b_icmp_ge C 77 dX9_take_17 (by decide) (rfl : Int32.toInt y8 = _) (rfl : Int32.toInt (im16 32) = _) (fun c17 => ?_) (fun c17 => ?_)
      · obtain ⟨fo, hfo, -⟩ := hJ12.2.1.getA (b := 89) (by omega) rfl
        obtain ⟨fx, hfx, -⟩ := hJ12.2.1.getA (b := 90) (by omega) rfl
        obtain ⟨fy, hfy, -⟩ := hJ12.2.1.getA (b := 91) (by omega) rfl
        exact v_vret C dX9_take_77 rfl ⟨fo, fx, fy, hfo, hfx, hfy, (fun j hj => hq10 fo fx fy hfo hfx hfy j (by omega)), hJ12⟩
      · refine v_aload_n C 0 dX9_take_20 rfl rfl ?_
        refine v_getr C 68 dX9_take_21 fX9_88 (by omega) hM16.2.2.1 rfl rfl ?_
        refine v_iload_n C 2 dX9_take_24 rfl rfl ?_
        refine v_aload_n C 0 dX9_take_25 rfl rfl ?_
        refine v_getr C 68 dX9_take_26 fX9_76 (by omega) hM16.2.2.1 rfl rfl ?_
        refine v_bipush (v := 10) C dX9_take_29 (by decide) ?_
        refine v_iload_n C 1 dX9_take_31 rfl rfl ?_
        refine v_imul C dX9_take_32 ?_
        refine v_top (fun x18 ex18 => ?_)
        have hx18 : x18.toInt = (10 * x.toInt) := by rw [ex18]; exact ti_mul (show (10 : Int32).toInt = 10 by decide) (rfl : Int32.toInt x = _) (by omega) (by omega)
        refine v_iload_n C 2 dX9_take_33 rfl rfl ?_
        refine v_iadd C dX9_take_34 ?_
        refine v_top (fun x19 ex19 => ?_)
        have hx19 : x19.toInt = ((10 * x.toInt) + y8.toInt) := by rw [ex19]; exact ti_add hx18 (rfl : Int32.toInt y8 = _) (by omega) (by omega)
        have hE20 := (hJ12.2.1.1 85 (by unfold PT; omega)).trans hgo
        refine v_ald (v := gop (((10 * x.toInt) + y8.toInt)).toNat) C 85 dX9_take_35 (by omega) hE20 (ti_in hx19 (by omega) (by omega)) (by rw [ti_cl hx19]) ?_
        obtain ⟨f22, hE22, hb22⟩ := hJ12.2.1.getA (b := 89) (by omega) rfl
        refine v_ast C 89 dX9_take_36 (by omega) hE22 (ti_in (rfl : Int32.toInt y8 = _) (by omega) (by omega)) (fun E23 hE23_89 oE23 => ?_)
        rw [ti_cl (rfl : Int32.toInt y8 = _)] at hE23_89
        have hE23_68 := (oE23 68 (by decide)).trans hM16.2.2.1
        have hE23_85 := (oE23 85 (by decide)).trans hE20
        have hJ24 := hJ12.with (hJ12.2.1.setA rfl (by unfold PT; omega) hb22 (ti_any (gop (((10 * x.toInt) + y8.toInt)).toNat)) hE23_89 oE23) (oE23 68 (by decide)) (oE23 69 (by decide)) (oE23 70 (by decide))
        have hM25 := hM16.of (oE23 68 (by decide)) (oE23 69 (by decide)) (oE23 70 (by decide))
        refine v_aload_n C 0 dX9_take_37 rfl rfl ?_
        refine v_getr C 68 dX9_take_38 fX9_91 (by omega) hM25.2.2.1 rfl rfl ?_
        refine v_iload_n C 2 dX9_take_41 rfl rfl ?_
        refine v_aload_n C 0 dX9_take_42 rfl rfl ?_
        refine v_getr C 68 dX9_take_43 fX9_79 (by omega) hM25.2.2.1 rfl rfl ?_
        refine v_bipush (v := 10) C dX9_take_46 (by decide) ?_
        refine v_iload_n C 1 dX9_take_48 rfl rfl ?_
        refine v_imul C dX9_take_49 ?_
        refine v_top (fun x26 ex26 => ?_)
        have hx26 : x26.toInt = (10 * x.toInt) := by rw [ex26]; exact ti_mul (show (10 : Int32).toInt = 10 by decide) (rfl : Int32.toInt x = _) (by omega) (by omega)
        refine v_iload_n C 2 dX9_take_50 rfl rfl ?_
        refine v_iadd C dX9_take_51 ?_
        refine v_top (fun x27 ex27 => ?_)
        have hx27 : x27.toInt = ((10 * x.toInt) + y8.toInt) := by rw [ex27]; exact ti_add hx26 (rfl : Int32.toInt y8 = _) (by omega) (by omega)
        have hE28 := (hJ24.2.1.1 86 (by unfold PT; omega)).trans hgx
        refine v_ald (v := gx (((10 * x.toInt) + y8.toInt)).toNat) C 86 dX9_take_52 (by omega) hE28 (ti_in hx27 (by omega) (by omega)) (by rw [ti_cl hx27]) ?_
        obtain ⟨f30, hE30, hb30⟩ := hJ24.2.1.getA (b := 90) (by omega) rfl
        refine v_ast C 90 dX9_take_53 (by omega) hE30 (ti_in (rfl : Int32.toInt y8 = _) (by omega) (by omega)) (fun E31 hE31_90 oE31 => ?_)
        rw [ti_cl (rfl : Int32.toInt y8 = _)] at hE31_90
        have hE31_68 := (oE31 68 (by decide)).trans hM25.2.2.1
        have hE31_85 := (oE31 85 (by decide)).trans hE23_85
        have hE31_86 := (oE31 86 (by decide)).trans hE28
        have hJ32 := hJ24.with (hJ24.2.1.setA rfl (by unfold PT; omega) hb30 (ti_any (gx (((10 * x.toInt) + y8.toInt)).toNat)) hE31_90 oE31) (oE31 68 (by decide)) (oE31 69 (by decide)) (oE31 70 (by decide))
        have hM33 := hM25.of (oE31 68 (by decide)) (oE31 69 (by decide)) (oE31 70 (by decide))
        refine v_aload_n C 0 dX9_take_54 rfl rfl ?_
        refine v_getr C 68 dX9_take_55 fX9_94 (by omega) hM33.2.2.1 rfl rfl ?_
        refine v_iload_n C 2 dX9_take_58 rfl rfl ?_
        refine v_aload_n C 0 dX9_take_59 rfl rfl ?_
        refine v_getr C 68 dX9_take_60 fX9_82 (by omega) hM33.2.2.1 rfl rfl ?_
        refine v_bipush (v := 10) C dX9_take_63 (by decide) ?_
        refine v_iload_n C 1 dX9_take_65 rfl rfl ?_
        refine v_imul C dX9_take_66 ?_
        refine v_top (fun x34 ex34 => ?_)
        have hx34 : x34.toInt = (10 * x.toInt) := by rw [ex34]; exact ti_mul (show (10 : Int32).toInt = 10 by decide) (rfl : Int32.toInt x = _) (by omega) (by omega)
        refine v_iload_n C 2 dX9_take_67 rfl rfl ?_
        refine v_iadd C dX9_take_68 ?_
        refine v_top (fun x35 ex35 => ?_)
        have hx35 : x35.toInt = ((10 * x.toInt) + y8.toInt) := by rw [ex35]; exact ti_add hx34 (rfl : Int32.toInt y8 = _) (by omega) (by omega)
        have hE36 := (hJ32.2.1.1 87 (by unfold PT; omega)).trans hgy
        refine v_ald (v := gy (((10 * x.toInt) + y8.toInt)).toNat) C 87 dX9_take_69 (by omega) hE36 (ti_in hx35 (by omega) (by omega)) (by rw [ti_cl hx35]) ?_
        obtain ⟨f38, hE38, hb38⟩ := hJ32.2.1.getA (b := 91) (by omega) rfl
        refine v_ast C 91 dX9_take_70 (by omega) hE38 (ti_in (rfl : Int32.toInt y8 = _) (by omega) (by omega)) (fun E39 hE39_91 oE39 => ?_)
        rw [ti_cl (rfl : Int32.toInt y8 = _)] at hE39_91
        have hE39_68 := (oE39 68 (by decide)).trans hM33.2.2.1
        have hE39_85 := (oE39 85 (by decide)).trans hE31_85
        have hE39_86 := (oE39 86 (by decide)).trans hE31_86
        have hE39_87 := (oE39 87 (by decide)).trans hE36
        have hJ40 := hJ32.with (hJ32.2.1.setA rfl (by unfold PT; omega) hb38 (ti_any (gy (((10 * x.toInt) + y8.toInt)).toNat)) hE39_91 oE39) (oE39 68 (by decide)) (oE39 69 (by decide)) (oE39 70 (by decide))
        have hM41 := hM33.of (oE39 68 (by decide)) (oE39 69 (by decide)) (oE39 70 (by decide))
        obtain ⟨x42, ex42⟩ : ∃ y : Int32, y = y8 + 1 := ⟨_, rfl⟩
        have hx42 : x42.toInt = (y8.toInt + 1) := by rw [ex42]; exact ti_add (rfl : Int32.toInt y8 = _) (show (1 : Int32).toInt = 1 by decide) (by omega) (by omega)
        refine v_iinc (v := x42) (lv' := [(0, .ref (ad 68)), (1, .int x), (2, .int x42)]) C 2 [1, 2, 0] dX9_take_71 rfl (ex42.symm) (by decide) rfl ?_
        refine v_goto C 12 dX9_take_74 (by decide) ?_
        exact ih13 _ x42 hJ40 (by have := hx42; omega) (by have := hx42; omega) (by rw [show (x42.toInt).toNat = (y8.toInt).toNat + 1 by omega]; exact TK_s hq10 hE22 hE23_89 oE23 hE30 hE31_90 oE31 hE38 hE39_91 oE39 (congrArg gop (by omega)) (congrArg gx (by omega)) (congrArg gy (by omega))) (by have := hx42; omega)
  exact LP7 100000 _ 0 hJ4 (by have := (show (0 : Int32).toInt = 0 by decide); omega) (by have := (show (0 : Int32).toInt = 0 by decide); omega) (by rw [show (Int32.toInt 0).toNat = 0 by decide]; exact TK_0) (by have := (show (0 : Int32).toInt = 0 by decide); omega)

set_option maxRecDepth 20000 in
theorem t_X9_isLaw (l : Launch) (G : Gl) (ad : Nat → Nat) {n : Nat} {ic md : Nat → Int32} {bd : Nat → Int × Int} {E0 E : Nat → va_E} (hJ : JM G ad n ic md bd PR E0 E) (x : Int32) (y : Int32) : CtI l G yX9_isLaw cX9_isLaw 3 .boolean 1 22 (n) ad E [.ref (ad 68), .int x, .int y] (fun r E' => ((r = 1 ∧ (0 ≤ x.toInt ∧ ((x.toInt % 10 = 1 ∨ x.toInt % 10 = 2) → x.toInt / 10 ≤ 4))) ∨ (r = 0 ∧ (0 : Int) ≤ 1)) ∧ E = E') := by
  refine CtI.of (by decide) (Nat.le_of_ble_eq_true rfl) (fun X A C => ?_)
  refine v_sub (lv' := [(0, .ref (ad 68)), (1, .int x), (2, .int y)]) [0, 1, 2] rfl ?_
  have hn := hJ.hn
  have hz16 := hJ.2.2.2.2
  refine v_iload_n C 1 dX9_isLaw_0 rfl rfl ?_
  refine b_if_ge C 6 dX9_isLaw_1 (by decide) (rfl : Int32.toInt x = _) (fun c1 => ?_) (fun c1 => ?_)
  · refine v_iload_n C 1 dX9_isLaw_6 rfl rfl ?_
    refine v_bipush (v := 10) C dX9_isLaw_7 (by decide) ?_
    refine v_irem C dX9_isLaw_9 (by decide) ?_
    have := ti_any x
    refine v_top (fun x2 ex2 => ?_)
    have hx2 : x2.toInt = (x.toInt % 10) := by rw [ex2]; exact ti_rem (rfl : Int32.toInt x = _) (show (10 : Int32).toInt = 10 by decide) (by omega) (by omega)
    have q3v : Int32.toInt x2 = (x.toInt % 10) := hx2
    rcases (show (x.toInt % 10) = 0 ∨ (x.toInt % 10) = 1 ∨ (x.toInt % 10) = 2 ∨ (x.toInt % 10) = 3 ∨ (x.toInt % 10) = 4 ∨ ((x.toInt % 10) < 0 ∨ 4 < (x.toInt % 10)) by omega) with q3 | q3 | q3 | q3 | q3 | q3
    · refine v_tableIn (off := 34) C 44 dX9_isLaw_10 (by omega) (by omega) (by rw [q3v, q3]; rfl) (by decide) ?_
      refine v_iload_n C 1 dX9_isLaw_44 rfl rfl ?_
      refine v_bipush (v := 10) C dX9_isLaw_45 (by decide) ?_
      refine v_idiv C dX9_isLaw_47 (by decide) ?_
      have := ti_any x
      refine v_top (fun x4 ex4 => ?_)
      have hx4 : x4.toInt = (x.toInt / 10) := by rw [ex4]; exact ti_div (rfl : Int32.toInt x = _) (show (10 : Int32).toInt = 10 by decide) (by omega) (by omega)
      refine b_if_ne C 55 dX9_isLaw_48 (by decide) hx4 (fun c5 => ?_) (fun c5 => ?_)
      · refine v_iconst (v := 0) C dX9_isLaw_55 (by decide) ?_
        exact v_ret C dX9_isLaw_56 rfl rfl ⟨Or.inr ⟨rfl, by omega⟩, rfl⟩
      · refine v_iconst (v := 1) C dX9_isLaw_51 (by decide) ?_
        refine v_goto C 56 dX9_isLaw_52 (by decide) ?_
        exact v_ret C dX9_isLaw_56 rfl rfl ⟨Or.inl ⟨rfl, by omega⟩, rfl⟩
    · refine v_tableIn (off := 47) C 57 dX9_isLaw_10 (by omega) (by omega) (by rw [q3v, q3]; rfl) (by decide) ?_
      refine v_aload_n C 0 dX9_isLaw_57 rfl rfl ?_
      refine v_iload_n C 1 dX9_isLaw_58 rfl rfl ?_
      refine v_bipush (v := 10) C dX9_isLaw_59 (by decide) ?_
      refine v_idiv C dX9_isLaw_61 (by decide) ?_
      have := ti_any x
      refine v_top (fun x6 ex6 => ?_)
      have hx6 : x6.toInt = (x.toInt / 10) := by rw [ex6]; exact ti_div (rfl : Int32.toInt x = _) (show (10 : Int32).toInt = 10 by decide) (by omega) (by omega)
      obtain ⟨im9, hM9, hb9⟩ := hJ.1
      have hq9 := hM9.b
      refine v_cVp C dX9_isLaw_62 lX9_162 mX9_isZone 68 (by omega) hM9.2.2.1 (by decide) rfl (t_X9_isZone l G ad hJ x6) ⟨by decide, by decide⟩ rfl (Nat.le_of_ble_eq_true rfl) ⟨Nat.zero_le _, Nat.zero_le _⟩ (fun r7 hp8 => ?_)
      rcases hp8 with ⟨rfl, hp8⟩ | ⟨rfl, hp8⟩
      · refine b_if_eq C 83 dX9_isLaw_65 (by decide) (show (1 : Int32).toInt = 1 by decide) (fun c10 => absurd c10 (by decide)) (fun c10 => ?_)
        refine v_iload_n C 2 dX9_isLaw_68 rfl rfl ?_
        refine v_iconst (v := 0) C dX9_isLaw_69 (by decide) ?_
        refine v_sipush (v := 1439) C dX9_isLaw_70 (by decide) ?_
        refine v_cSp C dX9_isLaw_73 lX9_131 mX9_within (t_X9_within l G ad hJ y 0 1439) ⟨by decide, by decide⟩ rfl (Nat.le_of_ble_eq_true rfl) ⟨Nat.zero_le _, Nat.zero_le _⟩ (fun r11 hp12 => ?_)
        have := (show (0 : Int32).toInt = 0 by decide)
        have := (show (1439 : Int32).toInt = 1439 by decide)
        rcases hp12 with ⟨rfl, hp12⟩ | ⟨rfl, hp12⟩
        · refine b_if_eq C 83 dX9_isLaw_76 (by decide) (show (1 : Int32).toInt = 1 by decide) (fun c13 => absurd c13 (by decide)) (fun c13 => ?_)
          refine v_iconst (v := 1) C dX9_isLaw_79 (by decide) ?_
          refine v_goto C 84 dX9_isLaw_80 (by decide) ?_
          exact v_ret C dX9_isLaw_84 rfl rfl ⟨Or.inl ⟨rfl, by omega⟩, rfl⟩
        · refine b_if_eq C 83 dX9_isLaw_76 (by decide) (show (0 : Int32).toInt = 0 by decide) (fun c14 => ?_) (fun c14 => absurd c14 (by decide))
          refine v_iconst (v := 0) C dX9_isLaw_83 (by decide) ?_
          exact v_ret C dX9_isLaw_84 rfl rfl ⟨Or.inr ⟨rfl, by omega⟩, rfl⟩
      · refine b_if_eq C 83 dX9_isLaw_65 (by decide) (show (0 : Int32).toInt = 0 by decide) (fun c15 => ?_) (fun c15 => absurd c15 (by decide))
        refine v_iconst (v := 0) C dX9_isLaw_83 (by decide) ?_
        exact v_ret C dX9_isLaw_84 rfl rfl ⟨Or.inr ⟨rfl, by omega⟩, rfl⟩
    · refine v_tableIn (off := 75) C 85 dX9_isLaw_10 (by omega) (by omega) (by rw [q3v, q3]; rfl) (by decide) ?_
      refine v_aload_n C 0 dX9_isLaw_85 rfl rfl ?_
      refine v_iload_n C 1 dX9_isLaw_86 rfl rfl ?_
      refine v_bipush (v := 10) C dX9_isLaw_87 (by decide) ?_
      refine v_idiv C dX9_isLaw_89 (by decide) ?_
      have := ti_any x
      refine v_top (fun x16 ex16 => ?_)
      have hx16 : x16.toInt = (x.toInt / 10) := by rw [ex16]; exact ti_div (rfl : Int32.toInt x = _) (show (10 : Int32).toInt = 10 by decide) (by omega) (by omega)
      obtain ⟨im19, hM19, hb19⟩ := hJ.1
      have hq19 := hM19.b
      refine v_cVp C dX9_isLaw_90 lX9_162 mX9_isZone 68 (by omega) hM19.2.2.1 (by decide) rfl (t_X9_isZone l G ad hJ x16) ⟨by decide, by decide⟩ rfl (Nat.le_of_ble_eq_true rfl) ⟨Nat.zero_le _, Nat.zero_le _⟩ (fun r17 hp18 => ?_)
      rcases hp18 with ⟨rfl, hp18⟩ | ⟨rfl, hp18⟩
      · refine b_if_eq C 104 dX9_isLaw_93 (by decide) (show (1 : Int32).toInt = 1 by decide) (fun c20 => absurd c20 (by decide)) (fun c20 => ?_)
        refine v_iload_n C 2 dX9_isLaw_96 rfl rfl ?_
        refine b_if_ne C 104 dX9_isLaw_97 (by decide) (rfl : Int32.toInt y = _) (fun c21 => ?_) (fun c21 => ?_)
        · refine v_iconst (v := 0) C dX9_isLaw_104 (by decide) ?_
          exact v_ret C dX9_isLaw_105 rfl rfl ⟨Or.inr ⟨rfl, by omega⟩, rfl⟩
        · refine v_iconst (v := 1) C dX9_isLaw_100 (by decide) ?_
          refine v_goto C 105 dX9_isLaw_101 (by decide) ?_
          exact v_ret C dX9_isLaw_105 rfl rfl ⟨Or.inl ⟨rfl, by omega⟩, rfl⟩
      · refine b_if_eq C 104 dX9_isLaw_93 (by decide) (show (0 : Int32).toInt = 0 by decide) (fun c22 => ?_) (fun c22 => absurd c22 (by decide))
        refine v_iconst (v := 0) C dX9_isLaw_104 (by decide) ?_
        exact v_ret C dX9_isLaw_105 rfl rfl ⟨Or.inr ⟨rfl, by omega⟩, rfl⟩
    · refine v_tableIn (off := 34) C 44 dX9_isLaw_10 (by omega) (by omega) (by rw [q3v, q3]; rfl) (by decide) ?_
      refine v_iload_n C 1 dX9_isLaw_44 rfl rfl ?_
      refine v_bipush (v := 10) C dX9_isLaw_45 (by decide) ?_
      refine v_idiv C dX9_isLaw_47 (by decide) ?_
      have := ti_any x
      refine v_top (fun x23 ex23 => ?_)
      have hx23 : x23.toInt = (x.toInt / 10) := by rw [ex23]; exact ti_div (rfl : Int32.toInt x = _) (show (10 : Int32).toInt = 10 by decide) (by omega) (by omega)
      refine b_if_ne C 55 dX9_isLaw_48 (by decide) hx23 (fun c24 => ?_) (fun c24 => ?_)
      · refine v_iconst (v := 0) C dX9_isLaw_55 (by decide) ?_
        exact v_ret C dX9_isLaw_56 rfl rfl ⟨Or.inr ⟨rfl, by omega⟩, rfl⟩
      · refine v_iconst (v := 1) C dX9_isLaw_51 (by decide) ?_
        refine v_goto C 56 dX9_isLaw_52 (by decide) ?_
        exact v_ret C dX9_isLaw_56 rfl rfl ⟨Or.inl ⟨rfl, by omega⟩, rfl⟩
    · refine v_tableIn (off := 96) C 106 dX9_isLaw_10 (by omega) (by omega) (by rw [q3v, q3]; rfl) (by decide) ?_
      refine v_iload_n C 1 dX9_isLaw_106 rfl rfl ?_
      refine v_bipush (v := 10) C dX9_isLaw_107 (by decide) ?_
      refine v_idiv C dX9_isLaw_109 (by decide) ?_
      have := ti_any x
      refine v_top (fun x25 ex25 => ?_)
      have hx25 : x25.toInt = (x.toInt / 10) := by rw [ex25]; exact ti_div (rfl : Int32.toInt x = _) (show (10 : Int32).toInt = 10 by decide) (by omega) (by omega)
      refine b_if_ne C 121 dX9_isLaw_110 (by decide) hx25 (fun c26 => ?_) (fun c26 => ?_)
      · refine v_iconst (v := 0) C dX9_isLaw_121 (by decide) ?_
        exact v_ret C dX9_isLaw_122 rfl rfl ⟨Or.inr ⟨rfl, by omega⟩, rfl⟩
      · refine v_iload_n C 2 dX9_isLaw_113 rfl rfl ?_
        refine b_if_ne C 121 dX9_isLaw_114 (by decide) (rfl : Int32.toInt y = _) (fun c27 => ?_) (fun c27 => ?_)
        · refine v_iconst (v := 0) C dX9_isLaw_121 (by decide) ?_
          exact v_ret C dX9_isLaw_122 rfl rfl ⟨Or.inr ⟨rfl, by omega⟩, rfl⟩
        · refine v_iconst (v := 1) C dX9_isLaw_117 (by decide) ?_
          refine v_goto C 122 dX9_isLaw_118 (by decide) ?_
          exact v_ret C dX9_isLaw_122 rfl rfl ⟨Or.inl ⟨rfl, by omega⟩, rfl⟩
    · refine v_tableOut C 123 dX9_isLaw_10 (by omega) (by decide) ?_
      refine v_iconst (v := 0) C dX9_isLaw_123 (by decide) ?_
      exact v_ret C dX9_isLaw_124 rfl rfl ⟨Or.inr ⟨rfl, by omega⟩, rfl⟩
  · refine v_iconst (v := 0) C dX9_isLaw_4 (by decide) ?_
    exact v_ret C dX9_isLaw_5 rfl rfl ⟨Or.inr ⟨rfl, by omega⟩, rfl⟩

set_option maxRecDepth 20000 in
theorem t_X9_wallOf (l : Launch) (G : Gl) (ad : Nat → Nat) {n : Nat} {ic md : Nat → Int32} {bd : Nat → Int × Int} {E0 E : Nat → va_E} (hJ : JM G ad n ic md bd PR E0 E) (x : Int32) (hx : (0 : Int) ≤ x.toInt ∧ x.toInt ≤ 4) (y : Int32) : CtI l G yX9_wallOf cX9_wallOf 4 .int 5 121 (n) ad E [.ref (ad 68), .int x, .int y] (fun r E' => ((-2147483648 : Int) ≤ r.toInt ∧ r.toInt ≤ 2147483647) ∧ JM G ad n ic md bd PR E0 E') := by
  refine CtI.of (by decide) (Nat.le_of_ble_eq_true rfl) (fun X A C => ?_)
  refine v_sub (lv' := [(0, .ref (ad 68)), (1, .int x), (2, .int y)]) [0, 1, 2] rfl ?_
  have hn := hJ.hn
  have hz16 := hJ.2.2.2.2
  refine v_iload_n C 2 dX9_wallOf_0 rfl rfl ?_
  refine v_aload_n C 0 dX9_wallOf_1 rfl rfl ?_
  refine v_iload_n C 1 dX9_wallOf_2 rfl rfl ?_
  refine v_iload_n C 2 dX9_wallOf_3 rfl rfl ?_
  obtain ⟨im5, hM5, hb5⟩ := hJ.1
  have hq5 := hM5.b
  refine v_cVi C dX9_wallOf_4 lX9_182 mX9_offsetAt 68 (by omega) hM5.2.2.1 (by decide) rfl (t_X9_offsetAt l G ad hJ x (show (0 : Int) ≤ Int32.toInt x ∧ Int32.toInt x ≤ 4 by omega) y) ⟨by decide, by decide⟩ rfl (Nat.le_of_ble_eq_true rfl) ⟨Nat.zero_le _, Nat.zero_le _⟩ (fun r1 E2 hp3 => ?_)
  obtain ⟨hp3, hJ4⟩ := hp3
  refine v_iadd C dX9_wallOf_7 ?_
  refine v_top (fun x6 _ => ?_)
  refine v_istore_n (lv' := [(0, .ref (ad 68)), (1, .int x), (2, .int y), (3, .int x6)]) C [1, 2, 3, 0] dX9_wallOf_8 rfl (by decide) rfl ?_
  refine v_aload_n C 0 dX9_wallOf_9 rfl rfl ?_
  refine v_iload_n C 3 dX9_wallOf_10 rfl rfl ?_
  obtain ⟨im11, hM11, hb11⟩ := hJ4.1
  have hq11 := hM11.b
  refine v_cVi C dX9_wallOf_11 lX9_185 mX9_isWall 68 (by omega) hM11.2.2.1 (by decide) rfl (t_X9_isWall l G ad hJ4 x6) ⟨by decide, by decide⟩ rfl (Nat.le_of_ble_eq_true rfl) ⟨Nat.zero_le _, Nat.zero_le _⟩ (fun r7 E8 hp9 => ?_)
  obtain ⟨hp9, hJ10⟩ := hp9
  rcases hp9 with rfl | rfl
  · refine b_if_eq C 21 dX9_wallOf_14 (by decide) (show (0 : Int32).toInt = 0 by decide) (fun c12 => ?_) (fun c12 => absurd c12 (by decide))
    refine v_iconst (v := (-1)) C dX9_wallOf_21 (by decide) ?_
    exact v_ret C dX9_wallOf_22 rfl rfl ⟨(ti_any (-1)), hJ10⟩
  · refine b_if_eq C 21 dX9_wallOf_14 (by decide) (show (1 : Int32).toInt = 1 by decide) (fun c13 => absurd c13 (by decide)) (fun c13 => ?_)
    refine v_iload_n C 3 dX9_wallOf_17 rfl rfl ?_
    refine v_goto C 22 dX9_wallOf_18 (by decide) ?_
    exact v_ret C dX9_wallOf_22 rfl rfl ⟨(ti_any x6), hJ10⟩

set_option maxRecDepth 20000 in
theorem t_X9_isKept (l : Launch) (G : Gl) (ad : Nat → Nat) {n : Nat} {ic md : Nat → Int32} {bd : Nat → Int × Int} {E0 E : Nat → va_E} {ab : Int × Int} (hJ : JM G ad n ic md (upB bd 35 ab) PR E0 E) {fo fx : Nat → Int32} {m : Nat} (hfo : E0 89 = aI G 10 fo) (hfx : E0 90 = aI G 10 fx) (hm : m ≤ 10) (hok : okH fo m) (hox : OXm fo fx m) (hf32 : (m : Int) ≤ (bd 32).1 ∧ (bd 32).2 ≤ (m : Int)) (x : Int32) (hx : (0 : Int) ≤ x.toInt ∧ x.toInt ≤ 2147483647) (y : Int32) (v : Int32) (hlw : ((x.toInt % 10 = 1 ∨ x.toInt % 10 = 2) → x.toInt / 10 ≤ 4)) : CtI l G yX9_isKept cX9_isKept 7 .boolean 8 197 (n) ad E [.ref (ad 68), .int x, .int y, .int v] (fun r E' => (r = 0 ∨ r = 1) ∧ JM G ad n ic md (upB bd 35 (0, 8)) PR E0 E') := by
  refine CtI.of (by decide) (Nat.le_of_ble_eq_true rfl) (fun X A C => ?_)
  refine v_sub (lv' := [(0, .ref (ad 68)), (1, .int x), (2, .int y), (3, .int v)]) [0, 1, 2, 3] rfl ?_
  have hn := hJ.hn
  have hz16 := upB_n16 (by decide) hJ.2.2.2.2
  refine v_aload_n C 0 dX9_isKept_0 rfl rfl ?_
  refine v_iload_n C 3 dX9_isKept_1 rfl rfl ?_
  obtain ⟨im5, hM5, hb5⟩ := hJ.1
  have hq5 := hM5.b
  refine v_cVi C dX9_isKept_2 lX9_253 mX9_runs 68 (by omega) hM5.2.2.1 (by decide) rfl (t_X9_runs l G ad hJ hfo hfx hm hok hox (show (m : Int) ≤ (bd 32).1 ∧ (bd 32).2 ≤ (m : Int) by omega) v) ⟨by decide, by decide⟩ rfl (Nat.le_of_ble_eq_true rfl) ⟨Nat.zero_le _, Nat.zero_le _⟩ (fun r1 E2 hp3 => ?_)
  obtain ⟨hp3, hJ4⟩ := hp3
  rcases hp3 with rfl | rfl
  · refine b_if_ne C 10 dX9_isKept_5 (by decide) (show (0 : Int32).toInt = 0 by decide) (fun c6 => absurd c6 (by decide)) (fun c6 => ?_)
    refine v_iconst (v := 0) C dX9_isKept_8 (by decide) ?_
    exact v_ret C dX9_isKept_9 rfl rfl ⟨Or.inl rfl, hJ4.toB (by decide) (by omega) (by omega)⟩
  · refine b_if_ne C 10 dX9_isKept_5 (by decide) (show (1 : Int32).toInt = 1 by decide) (fun c7 => ?_) (fun c7 => absurd c7 (by decide))
    refine v_aload_n C 0 dX9_isKept_10 rfl rfl ?_
    obtain ⟨im8, hM8, hb8⟩ := hJ4.1
    have hq8 := hM8.b
    refine v_getr C 68 dX9_isKept_11 fX9_100 (by omega) hM8.2.2.1 rfl rfl ?_
    refine v_iconst (v := 0) C dX9_isKept_14 (by decide) ?_
    obtain ⟨f10, hE10, hb10⟩ := hJ4.2.1.getA (b := 93) (by omega) rfl
    refine v_ald (v := f10 0) C 93 dX9_isKept_15 (by omega) hE10 (ti_in (show (0 : Int32).toInt = 0 by decide) (by omega) (by omega)) (congrArg f10 (by decide)) ?_
    refine v_top (fun x11 _ => ?_)
    refine v_istore (lv' := [(0, .ref (ad 68)), (1, .int x), (2, .int y), (3, .int v), (4, .int x11)]) C [1, 2, 3, 4, 0] dX9_isKept_16 (by decide) rfl ?_
    refine v_aload_n C 0 dX9_isKept_18 rfl rfl ?_
    refine v_getr C 68 dX9_isKept_19 fX9_97 (by omega) hM8.2.2.1 rfl rfl ?_
    refine v_iconst (v := 0) C dX9_isKept_22 (by decide) ?_
    obtain ⟨f13, hE13, hb13⟩ := hJ4.2.1.getA (b := 92) (by omega) rfl
    refine v_ald (v := f13 0) C 92 dX9_isKept_23 (by omega) hE13 (ti_in (show (0 : Int32).toInt = 0 by decide) (by omega) (by omega)) (congrArg f13 (by decide)) ?_
    refine v_top (fun x14 _ => ?_)
    have JN15 : ∀ (E17 : Nat → va_E) (y16 : Int32), JM G ad n ic md (upB bd 35 (0, 8)) PR E0 E17 → ((0 : Int) ≤ y16.toInt ∧ y16.toInt ≤ 1) → V X G A 7 (QI X G A (n) ad (fun r E' => (r = 0 ∨ r = 1) ∧ JM G ad n ic md (upB bd 35 (0, 8)) PR E0 E')) n ad 0 0 E17 32 [(0, .ref (ad 68)), (1, .int x), (2, .int y), (3, .int v), (4, .int x11)] [.int y16] := by
      intro E17 y16 hJ18 hy16
      refine v_istore (lv' := [(0, .ref (ad 68)), (1, .int x), (2, .int y), (3, .int v), (4, .int x11), (5, .int y16)]) C [1, 2, 3, 4, 5, 0] dX9_isKept_32 (by decide) rfl ?_
      refine v_iload_n C 1 dX9_isKept_34 rfl rfl ?_
      refine v_bipush (v := 10) C dX9_isKept_35 (by decide) ?_
      refine v_idiv C dX9_isKept_37 (by decide) ?_
      have := ti_any x
      refine v_top (fun x19 ex19 => ?_)
      have hx19 : x19.toInt = (x.toInt / 10) := by rw [ex19]; exact ti_div (rfl : Int32.toInt x = _) (show (10 : Int32).toInt = 10 by decide) (by omega) (by omega)
      refine v_istore (lv' := [(0, .ref (ad 68)), (1, .int x), (2, .int y), (3, .int v), (4, .int x11), (5, .int y16), (6, .int x19)]) C [1, 2, 3, 4, 5, 6, 0] dX9_isKept_38 (by decide) rfl ?_
      refine v_iload_n C 1 dX9_isKept_40 rfl rfl ?_
      refine v_bipush (v := 10) C dX9_isKept_41 (by decide) ?_
      refine v_irem C dX9_isKept_43 (by decide) ?_
      have := ti_any x
      refine v_top (fun x20 ex20 => ?_)
      have hx20 : x20.toInt = (x.toInt % 10) := by rw [ex20]; exact ti_rem (rfl : Int32.toInt x = _) (show (10 : Int32).toInt = 10 by decide) (by omega) (by omega)
      have q21v : Int32.toInt x20 = (x.toInt % 10) := hx20
      rcases (show (x.toInt % 10) = 0 ∨ (x.toInt % 10) = 1 ∨ (x.toInt % 10) = 2 ∨ (x.toInt % 10) = 3 ∨ ((x.toInt % 10) < 0 ∨ 3 < (x.toInt % 10)) by omega) with q21 | q21 | q21 | q21 | q21
      · refine v_tableIn (off := 32) C 76 dX9_isKept_44 (by omega) (by omega) (by rw [q21v, q21]; rfl) (by decide) ?_
        refine v_iload C 5 dX9_isKept_76 rfl ?_
        refine b_if_eq C 97 dX9_isKept_78 (by decide) (rfl : Int32.toInt y16 = _) (fun c22 => ?_) (fun c22 => ?_)
        · refine v_iconst (v := 0) C dX9_isKept_97 (by decide) ?_
          exact v_ret C dX9_isKept_98 rfl rfl ⟨Or.inl rfl, hJ18.toB (by decide) (by omega) (by omega)⟩
        · refine v_iload C 4 dX9_isKept_81 rfl ?_
          refine v_i2l C dX9_isKept_83 rfl ?_
          refine v_topl (fun x23 _ => ?_)
          refine v_iload_n C 3 dX9_isKept_84 rfl rfl ?_
          refine v_i2l C dX9_isKept_85 rfl ?_
          refine v_topl (fun x24 _ => ?_)
          refine v_iload_n C 2 dX9_isKept_86 rfl rfl ?_
          refine v_i2l C dX9_isKept_87 rfl ?_
          refine v_topl (fun x25 _ => ?_)
          refine v_ladd C dX9_isKept_88 ?_
          refine v_topl (fun x26 _ => ?_)
          refine v_lcmp C dX9_isKept_89 ?_
          refine v_top (fun x27 _ => ?_)
          refine b_if_lt C 97 dX9_isKept_90 (by decide) (rfl : Int32.toInt x27 = _) (fun c28 => ?_) (fun c28 => ?_)
          · refine v_iconst (v := 0) C dX9_isKept_97 (by decide) ?_
            exact v_ret C dX9_isKept_98 rfl rfl ⟨Or.inl rfl, hJ18.toB (by decide) (by omega) (by omega)⟩
          · refine v_iconst (v := 1) C dX9_isKept_93 (by decide) ?_
            refine v_goto C 98 dX9_isKept_94 (by decide) ?_
            exact v_ret C dX9_isKept_98 rfl rfl ⟨Or.inr rfl, hJ18.toB (by decide) (by omega) (by omega)⟩
      · refine v_tableIn (off := 55) C 99 dX9_isKept_44 (by omega) (by omega) (by rw [q21v, q21]; rfl) (by decide) ?_
        refine v_iload C 5 dX9_isKept_99 rfl ?_
        refine b_if_eq C 135 dX9_isKept_101 (by decide) (rfl : Int32.toInt y16 = _) (fun c29 => ?_) (fun c29 => ?_)
        · refine v_iconst (v := 0) C dX9_isKept_135 (by decide) ?_
          exact v_ret C dX9_isKept_136 rfl rfl ⟨Or.inl rfl, hJ18.toB (by decide) (by omega) (by omega)⟩
        · refine v_aload_n C 0 dX9_isKept_104 rfl rfl ?_
          refine v_iload C 6 dX9_isKept_105 rfl ?_
          refine v_iload C 4 dX9_isKept_107 rfl ?_
          obtain ⟨im34, hM34, hb34⟩ := hJ18.1
          have hq34 := hM34.b
          refine v_cVi C dX9_isKept_109 lX9_256 mX9_wallOf 68 (by omega) hM34.2.2.1 (by decide) rfl (t_X9_wallOf l G ad hJ18 x19 (show (0 : Int) ≤ Int32.toInt x19 ∧ Int32.toInt x19 ≤ 4 by have := hx19; omega) x11) ⟨by decide, by decide⟩ rfl (Nat.le_of_ble_eq_true rfl) ⟨Nat.zero_le _, Nat.zero_le _⟩ (fun r30 E31 hp32 => ?_)
          obtain ⟨hp32, hJ33⟩ := hp32
          refine b_if_lt C 135 dX9_isKept_112 (by decide) (rfl : Int32.toInt r30 = _) (fun c35 => ?_) (fun c35 => ?_)
          · refine v_iconst (v := 0) C dX9_isKept_135 (by decide) ?_
            exact v_ret C dX9_isKept_136 rfl rfl ⟨Or.inl rfl, hJ33.toB (by decide) (by omega) (by omega)⟩
          · refine v_aload_n C 0 dX9_isKept_115 rfl rfl ?_
            refine v_iload C 6 dX9_isKept_116 rfl ?_
            refine v_iload C 4 dX9_isKept_118 rfl ?_
            obtain ⟨im40, hM40, hb40⟩ := hJ33.1
            have hq40 := hM40.b
            refine v_cVi C dX9_isKept_120 lX9_256 mX9_wallOf 68 (by omega) hM40.2.2.1 (by decide) rfl (t_X9_wallOf l G ad hJ33 x19 (show (0 : Int) ≤ Int32.toInt x19 ∧ Int32.toInt x19 ≤ 4 by have := hx19; omega) x11) ⟨by decide, by decide⟩ rfl (Nat.le_of_ble_eq_true rfl) ⟨Nat.zero_le _, Nat.zero_le _⟩ (fun r36 E37 hp38 => ?_)
            obtain ⟨hp38, hJ39⟩ := hp38
            refine v_sipush (v := 1440) C dX9_isKept_123 (by decide) ?_
            refine v_irem C dX9_isKept_126 (by decide) ?_
            refine v_top (fun x41 _ => ?_)
            refine v_iload_n C 2 dX9_isKept_127 rfl rfl ?_
            refine b_icmp_ne C 135 dX9_isKept_128 (by decide) (rfl : Int32.toInt x41 = _) (rfl : Int32.toInt y = _) (fun c42 => ?_) (fun c42 => ?_)
            · refine v_iconst (v := 0) C dX9_isKept_135 (by decide) ?_
              exact v_ret C dX9_isKept_136 rfl rfl ⟨Or.inl rfl, hJ39.toB (by decide) (by omega) (by omega)⟩
            · refine v_iconst (v := 1) C dX9_isKept_131 (by decide) ?_
              refine v_goto C 136 dX9_isKept_132 (by decide) ?_
              exact v_ret C dX9_isKept_136 rfl rfl ⟨Or.inr rfl, hJ39.toB (by decide) (by omega) (by omega)⟩
      · refine v_tableIn (off := 93) C 137 dX9_isKept_44 (by omega) (by omega) (by rw [q21v, q21]; rfl) (by decide) ?_
        refine v_iload C 5 dX9_isKept_137 rfl ?_
        refine b_if_eq C 201 dX9_isKept_139 (by decide) (rfl : Int32.toInt y16 = _) (fun c43 => ?_) (fun c43 => ?_)
        · refine v_iconst (v := 0) C dX9_isKept_201 (by decide) ?_
          exact v_ret C dX9_isKept_202 rfl rfl ⟨Or.inl rfl, hJ18.toB (by decide) (by omega) (by omega)⟩
        · refine v_aload_n C 0 dX9_isKept_142 rfl rfl ?_
          refine v_iload C 6 dX9_isKept_143 rfl ?_
          refine v_iload C 4 dX9_isKept_145 rfl ?_
          obtain ⟨im48, hM48, hb48⟩ := hJ18.1
          have hq48 := hM48.b
          refine v_cVi C dX9_isKept_147 lX9_256 mX9_wallOf 68 (by omega) hM48.2.2.1 (by decide) rfl (t_X9_wallOf l G ad hJ18 x19 (show (0 : Int) ≤ Int32.toInt x19 ∧ Int32.toInt x19 ≤ 4 by have := hx19; omega) x11) ⟨by decide, by decide⟩ rfl (Nat.le_of_ble_eq_true rfl) ⟨Nat.zero_le _, Nat.zero_le _⟩ (fun r44 E45 hp46 => ?_)
          obtain ⟨hp46, hJ47⟩ := hp46
          refine b_if_lt C 201 dX9_isKept_150 (by decide) (rfl : Int32.toInt r44 = _) (fun c49 => ?_) (fun c49 => ?_)
          · refine v_iconst (v := 0) C dX9_isKept_201 (by decide) ?_
            exact v_ret C dX9_isKept_202 rfl rfl ⟨Or.inl rfl, hJ47.toB (by decide) (by omega) (by omega)⟩
          · refine v_aload_n C 0 dX9_isKept_153 rfl rfl ?_
            refine v_iload C 6 dX9_isKept_154 rfl ?_
            refine v_iload_n C 3 dX9_isKept_156 rfl rfl ?_
            obtain ⟨im54, hM54, hb54⟩ := hJ47.1
            have hq54 := hM54.b
            refine v_cVi C dX9_isKept_157 lX9_256 mX9_wallOf 68 (by omega) hM54.2.2.1 (by decide) rfl (t_X9_wallOf l G ad hJ47 x19 (show (0 : Int) ≤ Int32.toInt x19 ∧ Int32.toInt x19 ≤ 4 by have := hx19; omega) v) ⟨by decide, by decide⟩ rfl (Nat.le_of_ble_eq_true rfl) ⟨Nat.zero_le _, Nat.zero_le _⟩ (fun r50 E51 hp52 => ?_)
            obtain ⟨hp52, hJ53⟩ := hp52
            refine b_if_lt C 201 dX9_isKept_160 (by decide) (rfl : Int32.toInt r50 = _) (fun c55 => ?_) (fun c55 => ?_)
            · refine v_iconst (v := 0) C dX9_isKept_201 (by decide) ?_
              exact v_ret C dX9_isKept_202 rfl rfl ⟨Or.inl rfl, hJ53.toB (by decide) (by omega) (by omega)⟩
            · refine v_aload_n C 0 dX9_isKept_163 rfl rfl ?_
              refine v_aload_n C 0 dX9_isKept_164 rfl rfl ?_
              refine v_iload C 6 dX9_isKept_165 rfl ?_
              refine v_iload C 4 dX9_isKept_167 rfl ?_
              obtain ⟨im60, hM60, hb60⟩ := hJ53.1
              have hq60 := hM60.b
              refine v_cVi C dX9_isKept_169 lX9_256 mX9_wallOf 68 (by omega) hM60.2.2.1 (by decide) rfl (t_X9_wallOf l G ad hJ53 x19 (show (0 : Int) ≤ Int32.toInt x19 ∧ Int32.toInt x19 ≤ 4 by have := hx19; omega) x11) ⟨by decide, by decide⟩ rfl (Nat.le_of_ble_eq_true rfl) ⟨Nat.zero_le _, Nat.zero_le _⟩ (fun r56 E57 hp58 => ?_)
              obtain ⟨hp58, hJ59⟩ := hp58
              refine v_sipush (v := 1440) C dX9_isKept_172 (by decide) ?_
              refine v_idiv C dX9_isKept_175 (by decide) ?_
              refine v_top (fun x61 ex61 => ?_)
              have hx61 : (-1491308 : Int) ≤ x61.toInt ∧ x61.toInt ≤ 1491308 := by rw [ex61]; exact ti_tdb (show (1440 : Int32).toInt = 1440 by decide) (by decide)
              obtain ⟨im64, hM64, hb64⟩ := hJ59.1
              have hq64 := hM64.b
              refine v_cVp C dX9_isKept_176 lX9_149 mX9_weekday 68 (by omega) hM64.2.2.1 (by decide) rfl (t_X9_weekday l G ad hJ59 x61) ⟨by decide, by decide⟩ rfl (Nat.le_of_ble_eq_true rfl) ⟨Nat.zero_le _, Nat.zero_le _⟩ (fun r62 hp63 => ?_)
              refine v_aload_n C 0 dX9_isKept_179 rfl rfl ?_
              refine v_aload_n C 0 dX9_isKept_180 rfl rfl ?_
              refine v_iload C 6 dX9_isKept_181 rfl ?_
              refine v_iload_n C 3 dX9_isKept_183 rfl rfl ?_
              refine v_cVi C dX9_isKept_184 lX9_256 mX9_wallOf 68 (by omega) hM64.2.2.1 (by decide) rfl (t_X9_wallOf l G ad hJ59 x19 (show (0 : Int) ≤ Int32.toInt x19 ∧ Int32.toInt x19 ≤ 4 by have := hx19; omega) v) ⟨by decide, by decide⟩ rfl (Nat.le_of_ble_eq_true rfl) ⟨Nat.zero_le _, Nat.zero_le _⟩ (fun r65 E66 hp67 => ?_)
              obtain ⟨hp67, hJ68⟩ := hp67
              refine v_sipush (v := 1440) C dX9_isKept_187 (by decide) ?_
              refine v_idiv C dX9_isKept_190 (by decide) ?_
              refine v_top (fun x69 ex69 => ?_)
              have hx69 : (-1491308 : Int) ≤ x69.toInt ∧ x69.toInt ≤ 1491308 := by rw [ex69]; exact ti_tdb (show (1440 : Int32).toInt = 1440 by decide) (by decide)
              obtain ⟨im72, hM72, hb72⟩ := hJ68.1
              have hq72 := hM72.b
              refine v_cVp C dX9_isKept_191 lX9_149 mX9_weekday 68 (by omega) hM72.2.2.1 (by decide) rfl (t_X9_weekday l G ad hJ68 x69) ⟨by decide, by decide⟩ rfl (Nat.le_of_ble_eq_true rfl) ⟨Nat.zero_le _, Nat.zero_le _⟩ (fun r70 hp71 => ?_)
              refine b_icmp_ne C 201 dX9_isKept_194 (by decide) (rfl : Int32.toInt r62 = _) (rfl : Int32.toInt r70 = _) (fun c73 => ?_) (fun c73 => ?_)
              · refine v_iconst (v := 0) C dX9_isKept_201 (by decide) ?_
                exact v_ret C dX9_isKept_202 rfl rfl ⟨Or.inl rfl, hJ68.toB (by decide) (by omega) (by omega)⟩
              · refine v_iconst (v := 1) C dX9_isKept_197 (by decide) ?_
                refine v_goto C 202 dX9_isKept_198 (by decide) ?_
                exact v_ret C dX9_isKept_202 rfl rfl ⟨Or.inr rfl, hJ68.toB (by decide) (by omega) (by omega)⟩
      · refine v_tableIn (off := 159) C 203 dX9_isKept_44 (by omega) (by omega) (by rw [q21v, q21]; rfl) (by decide) ?_
        refine v_aload_n C 0 dX9_isKept_203 rfl rfl ?_
        obtain ⟨im74, hM74, hb74⟩ := hJ18.1
        have hq74 := hM74.b
        refine v_getr C 68 dX9_isKept_204 fX9_97 (by omega) hM74.2.2.1 rfl rfl ?_
        refine v_iconst (v := 0) C dX9_isKept_207 (by decide) ?_
        obtain ⟨f76, hE76, hb76⟩ := hJ18.2.1.getA (b := 92) (by omega) rfl
        refine v_ald (v := f76 0) C 92 dX9_isKept_208 (by omega) hE76 (ti_in (show (0 : Int32).toInt = 0 by decide) (by omega) (by omega)) (congrArg f76 (by decide)) ?_
        refine v_top (fun x77 _ => ?_)
        refine v_iconst (v := 3) C dX9_isKept_209 (by decide) ?_
        refine b_icmp_ne C 223 dX9_isKept_210 (by decide) (rfl : Int32.toInt x77 = _) (show (3 : Int32).toInt = 3 by decide) (fun c78 => ?_) (fun c78 => ?_)
        · refine v_iconst (v := 0) C dX9_isKept_223 (by decide) ?_
          exact v_ret C dX9_isKept_224 rfl rfl ⟨Or.inl rfl, hJ18.toB (by decide) (by omega) (by omega)⟩
        · refine v_iload C 4 dX9_isKept_213 rfl ?_
          refine v_iload_n C 2 dX9_isKept_215 rfl rfl ?_
          refine b_icmp_lt C 223 dX9_isKept_216 (by decide) (rfl : Int32.toInt x11 = _) (rfl : Int32.toInt y = _) (fun c79 => ?_) (fun c79 => ?_)
          · refine v_iconst (v := 0) C dX9_isKept_223 (by decide) ?_
            exact v_ret C dX9_isKept_224 rfl rfl ⟨Or.inl rfl, hJ18.toB (by decide) (by omega) (by omega)⟩
          · refine v_iconst (v := 1) C dX9_isKept_219 (by decide) ?_
            refine v_goto C 224 dX9_isKept_220 (by decide) ?_
            exact v_ret C dX9_isKept_224 rfl rfl ⟨Or.inr rfl, hJ18.toB (by decide) (by omega) (by omega)⟩
      · refine v_tableOut C 225 dX9_isKept_44 (by omega) (by decide) ?_
        refine v_iconst (v := 1) C dX9_isKept_225 (by decide) ?_
        exact v_ret C dX9_isKept_226 rfl rfl ⟨Or.inr rfl, hJ18.toB (by decide) (by omega) (by omega)⟩
    refine b_if_ne C 31 dX9_isKept_24 (by decide) (rfl : Int32.toInt x14 = _) (fun c80 => ?_) (fun c80 => ?_)
    · refine v_iconst (v := 0) C dX9_isKept_31 (by decide) ?_
      exact JN15 _ 0 hJ4 (by have := (show (0 : Int32).toInt = 0 by decide); omega)
    · refine v_iconst (v := 1) C dX9_isKept_27 (by decide) ?_
      refine v_goto C 32 dX9_isKept_28 (by decide) ?_
      exact JN15 _ 1 hJ4 (by have := (show (1 : Int32).toInt = 1 by decide); omega)

set_option maxRecDepth 20000 in
theorem t_X9_firstBroken (l : Launch) (G : Gl) (ad : Nat → Nat) {n : Nat} {ic md : Nat → Int32} {bd : Nat → Int × Int} {E0 E : Nat → va_E} {ab : Int × Int} (hJ : JM G ad n ic md (upB bd 35 ab) PR E0 E) {fo fx : Nat → Int32} {m : Nat} (hfo : E0 89 = aI G 10 fo) (hfx : E0 90 = aI G 10 fx) (hm : m ≤ 10) (hok : okH fo m) (hox : OXm fo fx m) (hab : 0 ≤ ab.1 ∧ ab.2 ≤ 8) (hf32 : (m : Int) ≤ (bd 32).1 ∧ (bd 32).2 ≤ (m : Int)) (hf41 : (0 : Int) ≤ (bd 41).1 ∧ (bd 41).2 ≤ 40000) (x : Int32) (hx : (0 : Int) ≤ x.toInt ∧ x.toInt ≤ 2147483647) (y : Int32) (hlw : ((x.toInt % 10 = 1 ∨ x.toInt % 10 = 2) → x.toInt / 10 ≤ 4)) : CtI l G yX9_firstBroken cX9_firstBroken 4 .int 9 223 (n) ad E [.ref (ad 68), .int x, .int y] (fun r E' => ((-2147483648 : Int) ≤ r.toInt ∧ r.toInt ≤ 2147483647) ∧ JM G ad n ic md (upB bd 35 (0, 8)) PR E0 E') := by
  refine CtI.of (by decide) (Nat.le_of_ble_eq_true rfl) (fun X A C => ?_)
  refine v_sub (lv' := [(0, .ref (ad 68)), (1, .int x), (2, .int y)]) [0, 1, 2] rfl ?_
  have hn := hJ.hn
  have hz16 := upB_n16 (by decide) hJ.2.2.2.2
  refine v_iconst (v := 0) C dX9_firstBroken_0 (by decide) ?_
  refine v_istore_n (lv' := [(0, .ref (ad 68)), (1, .int x), (2, .int y), (3, .int 0)]) C [1, 2, 3, 0] dX9_firstBroken_1 rfl (by decide) rfl ?_
  have LP1 : ∀ (t : Nat) (E3 : Nat → va_E) (y2 : Int32), JM G ad n ic md (upB bd 35 (0, 8)) PR E0 E3 → ((0 : Int) ≤ y2.toInt ∧ y2.toInt ≤ 40000) → 40001 - y2.toInt < (t : Int) → V X G A 4 (QI X G A (n) ad (fun r E' => ((-2147483648 : Int) ≤ r.toInt ∧ r.toInt ≤ 2147483647) ∧ JM G ad n ic md (upB bd 35 (0, 8)) PR E0 E')) n ad 0 0 E3 2 [(0, .ref (ad 68)), (1, .int x), (2, .int y), (3, .int y2)] [] := by
    intro t7
    induction t7 with
    | zero => intro E3 y2 hJ4 hy2 hm6; exfalso; omega
    | succ t7 ih5 =>
      intro E3 y2 hJ4 hy2 hm6
      refine v_iload_n C 3 dX9_firstBroken_2 rfl rfl ?_
      refine v_aload_n C 0 dX9_firstBroken_3 rfl rfl ?_
      obtain ⟨im8, hM8, hb8⟩ := hJ4.1
      have hq8 := hM8.b
      refine v_geti (v := im8 41) C 68 dX9_firstBroken_4 fX9_265 (by omega) hM8.2.2.1 rfl rfl ?_
      have him8_41r : (bd 41).1 ≤ (im8 41).toInt ∧ (im8 41).toInt ≤ (bd 41).2 := hb8 41
      have him8_41 : (0 : Int) ≤ (im8 41).toInt ∧ (im8 41).toInt ≤ 40000 := by omega
      refine b_icmp_ge C 38 dX9_firstBroken_7 (by decide) (rfl : Int32.toInt y2 = _) (rfl : Int32.toInt (im8 41) = _) (fun c9 => ?_) (fun c9 => ?_)
      · refine v_bipush (v := (-6)) C dX9_firstBroken_38 (by decide) ?_
        exact v_ret C dX9_firstBroken_40 rfl rfl ⟨(ti_any (-6)), hJ4.toB (by decide) (by omega) (by omega)⟩
      · refine v_aload_n C 0 dX9_firstBroken_10 rfl rfl ?_
        refine v_iload_n C 1 dX9_firstBroken_11 rfl rfl ?_
        refine v_iload_n C 2 dX9_firstBroken_12 rfl rfl ?_
        refine v_aload_n C 0 dX9_firstBroken_13 rfl rfl ?_
        refine v_getr C 68 dX9_firstBroken_14 fX9_113 (by omega) hM8.2.2.1 rfl rfl ?_
        refine v_iload_n C 3 dX9_firstBroken_17 rfl rfl ?_
        obtain ⟨f11, hE11, hb11⟩ := hJ4.2.1.getA (b := 97) (by omega) rfl
        refine v_ald (v := f11 (y2.toInt).toNat) C 97 dX9_firstBroken_18 (by omega) hE11 (ti_in (rfl : Int32.toInt y2 = _) (by omega) (by omega)) (by rw [ti_cl (rfl : Int32.toInt y2 = _)]) ?_
        refine v_top (fun x12 _ => ?_)
        refine v_cVi C dX9_firstBroken_19 lX9_262 mX9_isKept 68 (by omega) hM8.2.2.1 (by decide) rfl (t_X9_isKept l G ad hJ4 hfo hfx hm hok hox (show (m : Int) ≤ (bd 32).1 ∧ (bd 32).2 ≤ (m : Int) by omega) x (show (0 : Int) ≤ Int32.toInt x ∧ Int32.toInt x ≤ 2147483647 by have := ti_any x; omega) y x12 (by omega)) ⟨by decide, by decide⟩ rfl (Nat.le_of_ble_eq_true rfl) ⟨Nat.zero_le _, Nat.zero_le _⟩ (fun r13 E14 hp15 => ?_)
        obtain ⟨hp15, hJ16⟩ := hp15
        rcases hp15 with rfl | rfl
        · refine b_if_ne C 32 dX9_firstBroken_22 (by decide) (show (0 : Int32).toInt = 0 by decide) (fun c17 => absurd c17 (by decide)) (fun c17 => ?_)
          refine v_aload_n C 0 dX9_firstBroken_25 rfl rfl ?_
          obtain ⟨im18, hM18, hb18⟩ := hJ16.1
          have hq18 := hM18.b
          refine v_getr C 68 dX9_firstBroken_26 fX9_113 (by omega) hM18.2.2.1 rfl rfl ?_
          refine v_iload_n C 3 dX9_firstBroken_29 rfl rfl ?_
          obtain ⟨f20, hE20, hb20⟩ := hJ16.2.1.getA (b := 97) (by omega) rfl
          refine v_ald (v := f20 (y2.toInt).toNat) C 97 dX9_firstBroken_30 (by omega) hE20 (ti_in (rfl : Int32.toInt y2 = _) (by omega) (by omega)) (by rw [ti_cl (rfl : Int32.toInt y2 = _)]) ?_
          refine v_top (fun x21 _ => ?_)
          exact v_ret C dX9_firstBroken_31 rfl rfl ⟨(ti_any x21), hJ16.toB (by decide) (by omega) (by omega)⟩
        · refine b_if_ne C 32 dX9_firstBroken_22 (by decide) (show (1 : Int32).toInt = 1 by decide) (fun c22 => ?_) (fun c22 => absurd c22 (by decide))
          obtain ⟨x23, ex23⟩ : ∃ y : Int32, y = y2 + 1 := ⟨_, rfl⟩
          have hx23 : x23.toInt = (y2.toInt + 1) := by rw [ex23]; exact ti_add (rfl : Int32.toInt y2 = _) (show (1 : Int32).toInt = 1 by decide) (by omega) (by omega)
          refine v_iinc (v := x23) (lv' := [(0, .ref (ad 68)), (1, .int x), (2, .int y), (3, .int x23)]) C 3 [1, 2, 3, 0] dX9_firstBroken_32 rfl (ex23.symm) (by decide) rfl ?_
          refine v_goto C 2 dX9_firstBroken_35 (by decide) ?_
          exact ih5 _ x23 (hJ16.toB (by decide) (by have := hx23; omega) (by have := hx23; omega)) (by have := hx23; omega) (by have := hx23; omega)
  exact LP1 100000 _ 0 (hJ.toB (by decide) (by have := (show (0 : Int32).toInt = 0 by decide); omega) (by have := (show (0 : Int32).toInt = 0 by decide); omega)) (by have := (show (0 : Int32).toInt = 0 by decide); omega) (by have := (show (0 : Int32).toInt = 0 by decide); omega)

set_option maxRecDepth 20000 in
theorem t_X9_mix (l : Launch) (G : Gl) (ad : Nat → Nat) {n : Nat} {ic md : Nat → Int32} {bd : Nat → Int × Int} {E0 E : Nat → va_E} (hJ : JM G ad n ic md bd PT E0 E) {gop gx gy fl : Nat → Int32} (hgo : E0 85 = aI G 60 gop) (hgx : E0 86 = aI G 60 gx) (hgy : E0 87 = aI G 60 gy) (hgl : E0 88 = aI G 6 fl) (hbl : ∀ k, 0 ≤ (fl k).toInt ∧ (fl k).toInt ≤ 10) (hLX : LXg gop gx) (hf32 : ((0 : Int) ≤ (bd 32).1 ∧ (bd 32).2 ≤ 10) ∧ ((bd 32).1 ≤ 0 ∧ 10 ≤ (bd 32).2)) (hf35 : ((0 : Int) ≤ (bd 35).1 ∧ (bd 35).2 ≤ 8) ∧ ((bd 35).1 ≤ 0 ∧ 8 ≤ (bd 35).2)) (p : Int32) : CtI l G yX9_mix cX9_mix 2 .int 4 86 (n) ad E [.ref (ad 68), .int p] (fun r E' => ((-2147483648 : Int) ≤ r.toInt ∧ r.toInt ≤ 2147483647) ∧ JM G ad n ic md bd PT E0 E') := by
  refine CtI.of (by decide) (Nat.le_of_ble_eq_true rfl) (fun X A C => ?_)
  refine v_sub (lv' := [(0, .ref (ad 68)), (1, .int p)]) [0, 1] rfl ?_
  have hn := hJ.hn
  have hz16 := hJ.2.2.2.2
  refine v_iload_n C 1 dX9_mix_0 rfl rfl ?_
  refine v_cSp C dX9_mix_1 lX9_194 mX9_isProgram (t_X9_isProgram l G ad hJ.self p) ⟨by decide, by decide⟩ rfl (Nat.le_of_ble_eq_true rfl) ⟨Nat.zero_le _, Nat.zero_le _⟩ (fun r1 hp2 => ?_)
  rcases hp2 with ⟨rfl, hp2⟩ | ⟨rfl, hp2⟩
  · refine b_if_ne C 9 dX9_mix_4 (by decide) (show (1 : Int32).toInt = 1 by decide) (fun c3 => ?_) (fun c3 => absurd c3 (by decide))
    refine v_aload_n C 0 dX9_mix_9 rfl rfl ?_
    refine v_iload_n C 1 dX9_mix_10 rfl rfl ?_
    obtain ⟨im7, hM7, hb7⟩ := hJ.1
    have hq7 := hM7.b
    refine v_cVv C dX9_mix_11 lX9_219 mX9_take 68 (by omega) hM7.2.2.1 (by decide) rfl (t_X9_take l G ad hJ hgo hgx hgy hgl hbl p (show (0 : Int) ≤ Int32.toInt p ∧ Int32.toInt p ≤ 5 by omega)) ⟨by decide, by decide⟩ rfl (Nat.le_of_ble_eq_true rfl) ⟨Nat.zero_le _, Nat.zero_le _⟩ (fun E4 hT6 => ?_)
    obtain ⟨fo6, fx6, fy6, h896, h906, h916, hT6, hJ5⟩ := hT6
    have hbm6 := hbl (p.toInt).toNat
    have hox6 : OXm fo6 fx6 ((fl (p.toInt).toNat).toInt).toNat := fun j hj hq => by have q := hT6 j hj; rw [q.1] at hq; rw [q.2.1]; exact hLX _ (by omega) hq
    refine v_aload_n C 0 dX9_mix_14 rfl rfl ?_
    obtain ⟨im13, hM13, hb13⟩ := hJ5.1
    have hq13 := hM13.b
    refine v_cVi C dX9_mix_15 lX9_222 mX9_mixOf 68 (by omega) hM13.2.2.1 (by decide) rfl (t_X9_mixOf l G ad hJ5.self h896 (show ((fl (p.toInt).toNat).toInt).toNat ≤ 10 by omega) (show ((((fl (p.toInt).toNat).toInt).toNat : Nat) : Int) ≤ (fl (p.toInt).toNat).toInt ∧ (fl (p.toInt).toNat).toInt ≤ ((((fl (p.toInt).toNat).toInt).toNat : Nat) : Int) by omega)) ⟨by decide, by decide⟩ rfl (Nat.le_of_ble_eq_true rfl) ⟨Nat.zero_le _, Nat.zero_le _⟩ (fun r8 E9 hp10 => ?_)
    rcases hp10 with ⟨hp10, hp10k, hJ11⟩ | ⟨hp10, hJ11⟩
    · have hJ12 := hJ5.trans (fun _ => PT_PR) hJ11
      have e14 := (hJ11.2.1.1 89 (by unfold PR; omega)).trans h896
      have e15 := (hJ11.2.1.1 90 (by unfold PR; omega)).trans h906
      have e16 := (hJ11.2.1.1 91 (by unfold PR; omega)).trans h916
      obtain rfl : r8 = (-6 : Int32) := ti_ext (hp10.trans (by decide))
      exact v_ret C dX9_mix_18 rfl rfl ⟨(ti_any (-6)), ((hJ12.outB (k := 35) (by decide) (show (bd 35).1 ≤ 0 by omega) (show 8 ≤ (bd 35).2 by omega)).outB (k := 32) (by decide) (show (bd 32).1 ≤ (fl (p.toInt).toNat).toInt by omega) (show (fl (p.toInt).toNat).toInt ≤ (bd 32).2 by omega))⟩
    · have hJ12 := hJ5.trans (fun _ => PT_PR) hJ11
      have e17 := (hJ11.2.1.1 89 (by unfold PR; omega)).trans h896
      have e18 := (hJ11.2.1.1 90 (by unfold PR; omega)).trans h906
      have e19 := (hJ11.2.1.1 91 (by unfold PR; omega)).trans h916
      exact v_ret C dX9_mix_18 rfl rfl ⟨(ti_any r8), ((hJ12.outB (k := 35) (by decide) (show (bd 35).1 ≤ 0 by omega) (show 8 ≤ (bd 35).2 by omega)).outB (k := 32) (by decide) (show (bd 32).1 ≤ (fl (p.toInt).toNat).toInt by omega) (show (fl (p.toInt).toNat).toInt ≤ (bd 32).2 by omega))⟩
  · refine b_if_ne C 9 dX9_mix_4 (by decide) (show (0 : Int32).toInt = 0 by decide) (fun c20 => absurd c20 (by decide)) (fun c20 => ?_)
    refine v_iconst (v := (-1)) C dX9_mix_7 (by decide) ?_
    exact v_ret C dX9_mix_8 rfl rfl ⟨(ti_any (-1)), hJ⟩

set_option maxRecDepth 20000 in
theorem t_X9_kind (l : Launch) (G : Gl) (ad : Nat → Nat) {n : Nat} {ic md : Nat → Int32} {bd : Nat → Int × Int} {E0 E : Nat → va_E} (hJ : JM G ad n ic md bd PT E0 E) {gop gx gy fl : Nat → Int32} (hgo : E0 85 = aI G 60 gop) (hgx : E0 86 = aI G 60 gx) (hgy : E0 87 = aI G 60 gy) (hgl : E0 88 = aI G 6 fl) (hbl : ∀ k, 0 ≤ (fl k).toInt ∧ (fl k).toInt ≤ 10) (hLX : LXg gop gx) (hf32 : ((0 : Int) ≤ (bd 32).1 ∧ (bd 32).2 ≤ 10) ∧ ((bd 32).1 ≤ 0 ∧ 10 ≤ (bd 32).2)) (hf35 : ((0 : Int) ≤ (bd 35).1 ∧ (bd 35).2 ≤ 8) ∧ ((bd 35).1 ≤ 0 ∧ 8 ≤ (bd 35).2)) (p : Int32) : CtI l G yX9_kind cX9_kind 2 .int 4 86 (n) ad E [.ref (ad 68), .int p] (fun r E' => ((-2147483648 : Int) ≤ r.toInt ∧ r.toInt ≤ 2147483647) ∧ JM G ad n ic md bd PT E0 E') := by
  refine CtI.of (by decide) (Nat.le_of_ble_eq_true rfl) (fun X A C => ?_)
  refine v_sub (lv' := [(0, .ref (ad 68)), (1, .int p)]) [0, 1] rfl ?_
  have hn := hJ.hn
  have hz16 := hJ.2.2.2.2
  refine v_iload_n C 1 dX9_kind_0 rfl rfl ?_
  refine v_cSp C dX9_kind_1 lX9_194 mX9_isProgram (t_X9_isProgram l G ad hJ.self p) ⟨by decide, by decide⟩ rfl (Nat.le_of_ble_eq_true rfl) ⟨Nat.zero_le _, Nat.zero_le _⟩ (fun r1 hp2 => ?_)
  rcases hp2 with ⟨rfl, hp2⟩ | ⟨rfl, hp2⟩
  · refine b_if_ne C 9 dX9_kind_4 (by decide) (show (1 : Int32).toInt = 1 by decide) (fun c3 => ?_) (fun c3 => absurd c3 (by decide))
    refine v_aload_n C 0 dX9_kind_9 rfl rfl ?_
    refine v_iload_n C 1 dX9_kind_10 rfl rfl ?_
    obtain ⟨im7, hM7, hb7⟩ := hJ.1
    have hq7 := hM7.b
    refine v_cVv C dX9_kind_11 lX9_219 mX9_take 68 (by omega) hM7.2.2.1 (by decide) rfl (t_X9_take l G ad hJ hgo hgx hgy hgl hbl p (show (0 : Int) ≤ Int32.toInt p ∧ Int32.toInt p ≤ 5 by omega)) ⟨by decide, by decide⟩ rfl (Nat.le_of_ble_eq_true rfl) ⟨Nat.zero_le _, Nat.zero_le _⟩ (fun E4 hT6 => ?_)
    obtain ⟨fo6, fx6, fy6, h896, h906, h916, hT6, hJ5⟩ := hT6
    have hbm6 := hbl (p.toInt).toNat
    have hox6 : OXm fo6 fx6 ((fl (p.toInt).toNat).toInt).toNat := fun j hj hq => by have q := hT6 j hj; rw [q.1] at hq; rw [q.2.1]; exact hLX _ (by omega) hq
    refine v_aload_n C 0 dX9_kind_14 rfl rfl ?_
    obtain ⟨im13, hM13, hb13⟩ := hJ5.1
    have hq13 := hM13.b
    refine v_cVi C dX9_kind_15 lX9_222 mX9_mixOf 68 (by omega) hM13.2.2.1 (by decide) rfl (t_X9_mixOf l G ad hJ5.self h896 (show ((fl (p.toInt).toNat).toInt).toNat ≤ 10 by omega) (show ((((fl (p.toInt).toNat).toInt).toNat : Nat) : Int) ≤ (fl (p.toInt).toNat).toInt ∧ (fl (p.toInt).toNat).toInt ≤ ((((fl (p.toInt).toNat).toInt).toNat : Nat) : Int) by omega)) ⟨by decide, by decide⟩ rfl (Nat.le_of_ble_eq_true rfl) ⟨Nat.zero_le _, Nat.zero_le _⟩ (fun r8 E9 hp10 => ?_)
    rcases hp10 with ⟨hp10, hp10k, hJ11⟩ | ⟨hp10, hJ11⟩
    · have hJ12 := hJ5.trans (fun _ => PT_PR) hJ11
      have e14 := (hJ11.2.1.1 89 (by unfold PR; omega)).trans h896
      have e15 := (hJ11.2.1.1 90 (by unfold PR; omega)).trans h906
      have e16 := (hJ11.2.1.1 91 (by unfold PR; omega)).trans h916
      obtain rfl : r8 = (-6 : Int32) := ti_ext (hp10.trans (by decide))
      refine v_bipush (v := (-6)) C dX9_kind_18 (by decide) ?_
      refine b_icmp_ne C 32 dX9_kind_20 (by decide) (show ((-6) : Int32).toInt = (-6) by decide) (show ((-6) : Int32).toInt = (-6) by decide) (fun c17 => absurd c17 (by decide)) (fun c17 => ?_)
      refine v_aload_n C 0 dX9_kind_23 rfl rfl ?_
      obtain ⟨im18, hM18, hb18⟩ := hJ12.1
      have hq18 := hM18.b
      refine v_getr C 68 dX9_kind_24 fX9_97 (by omega) hM18.2.2.1 rfl rfl ?_
      refine v_iconst (v := 0) C dX9_kind_27 (by decide) ?_
      obtain ⟨f20, hE20, hb20⟩ := hJ12.2.1.getA (b := 92) (by omega) rfl
      refine v_ald (v := f20 0) C 92 dX9_kind_28 (by omega) hE20 (ti_in (show (0 : Int32).toInt = 0 by decide) (by omega) (by omega)) (congrArg f20 (by decide)) ?_
      refine v_top (fun x21 _ => ?_)
      refine v_goto C 34 dX9_kind_29 (by decide) ?_
      exact v_ret C dX9_kind_34 rfl rfl ⟨(ti_any x21), ((hJ12.outB (k := 35) (by decide) (show (bd 35).1 ≤ 0 by omega) (show 8 ≤ (bd 35).2 by omega)).outB (k := 32) (by decide) (show (bd 32).1 ≤ (fl (p.toInt).toNat).toInt by omega) (show (fl (p.toInt).toNat).toInt ≤ (bd 32).2 by omega))⟩
    · have hJ12 := hJ5.trans (fun _ => PT_PR) hJ11
      have e22 := (hJ11.2.1.1 89 (by unfold PR; omega)).trans h896
      have e23 := (hJ11.2.1.1 90 (by unfold PR; omega)).trans h906
      have e24 := (hJ11.2.1.1 91 (by unfold PR; omega)).trans h916
      refine v_bipush (v := (-6)) C dX9_kind_18 (by decide) ?_
      refine b_icmp_ne C 32 dX9_kind_20 (by decide) (rfl : Int32.toInt r8 = _) (show ((-6) : Int32).toInt = (-6) by decide) (fun c25 => ?_) (fun c25 => absurd (by have := c25; omega) hp10)
      refine v_bipush (v := (-4)) C dX9_kind_32 (by decide) ?_
      exact v_ret C dX9_kind_34 rfl rfl ⟨(ti_any (-4)), ((hJ12.outB (k := 35) (by decide) (show (bd 35).1 ≤ 0 by omega) (show 8 ≤ (bd 35).2 by omega)).outB (k := 32) (by decide) (show (bd 32).1 ≤ (fl (p.toInt).toNat).toInt by omega) (show (fl (p.toInt).toNat).toInt ≤ (bd 32).2 by omega))⟩
  · refine b_if_ne C 9 dX9_kind_4 (by decide) (show (0 : Int32).toInt = 0 by decide) (fun c26 => absurd c26 (by decide)) (fun c26 => ?_)
    refine v_iconst (v := (-1)) C dX9_kind_7 (by decide) ?_
    exact v_ret C dX9_kind_8 rfl rfl ⟨(ti_any (-1)), hJ⟩

set_option maxRecDepth 20000 in
theorem t_X9_run (l : Launch) (G : Gl) (ad : Nat → Nat) {n : Nat} {ic md : Nat → Int32} {bd : Nat → Int × Int} {E0 E : Nat → va_E} (hJ : JM G ad n ic md bd PT E0 E) {gop gx gy fl : Nat → Int32} (hgo : E0 85 = aI G 60 gop) (hgx : E0 86 = aI G 60 gx) (hgy : E0 87 = aI G 60 gy) (hgl : E0 88 = aI G 6 fl) (hbl : ∀ k, 0 ≤ (fl k).toInt ∧ (fl k).toInt ≤ 10) (hLX : LXg gop gx) (hf32 : ((0 : Int) ≤ (bd 32).1 ∧ (bd 32).2 ≤ 10) ∧ ((bd 32).1 ≤ 0 ∧ 10 ≤ (bd 32).2)) (hf35 : ((0 : Int) ≤ (bd 35).1 ∧ (bd 35).2 ≤ 8) ∧ ((bd 35).1 ≤ 0 ∧ 8 ≤ (bd 35).2)) (p : Int32) (v : Int32) : CtI l G yX9_run cX9_run 3 .int 8 197 (n) ad E [.ref (ad 68), .int p, .int v] (fun r E' => ((-2147483648 : Int) ≤ r.toInt ∧ r.toInt ≤ 2147483647) ∧ JM G ad n ic md bd PT E0 E') := by
  refine CtI.of (by decide) (Nat.le_of_ble_eq_true rfl) (fun X A C => ?_)
  refine v_sub (lv' := [(0, .ref (ad 68)), (1, .int p), (2, .int v)]) [0, 1, 2] rfl ?_
  have hn := hJ.hn
  have hz16 := hJ.2.2.2.2
  refine v_iload_n C 1 dX9_run_0 rfl rfl ?_
  refine v_cSp C dX9_run_1 lX9_194 mX9_isProgram (t_X9_isProgram l G ad hJ.self p) ⟨by decide, by decide⟩ rfl (Nat.le_of_ble_eq_true rfl) ⟨Nat.zero_le _, Nat.zero_le _⟩ (fun r1 hp2 => ?_)
  rcases hp2 with ⟨rfl, hp2⟩ | ⟨rfl, hp2⟩
  · refine b_if_eq C 14 dX9_run_4 (by decide) (show (1 : Int32).toInt = 1 by decide) (fun c3 => absurd c3 (by decide)) (fun c3 => ?_)
    refine v_iload_n C 2 dX9_run_7 rfl rfl ?_
    refine v_cSp C dX9_run_8 lX9_179 mX9_isMoment (t_X9_isMoment l G ad hJ.self v) ⟨by decide, by decide⟩ rfl (Nat.le_of_ble_eq_true rfl) ⟨Nat.zero_le _, Nat.zero_le _⟩ (fun r4 hp5 => ?_)
    rcases hp5 with ⟨rfl, hp5⟩ | ⟨rfl, hp5⟩
    · refine b_if_ne C 17 dX9_run_11 (by decide) (show (1 : Int32).toInt = 1 by decide) (fun c6 => ?_) (fun c6 => absurd c6 (by decide))
      refine v_aload_n C 0 dX9_run_17 rfl rfl ?_
      refine v_iload_n C 1 dX9_run_18 rfl rfl ?_
      obtain ⟨im10, hM10, hb10⟩ := hJ.1
      have hq10 := hM10.b
      refine v_cVv C dX9_run_19 lX9_219 mX9_take 68 (by omega) hM10.2.2.1 (by decide) rfl (t_X9_take l G ad hJ hgo hgx hgy hgl hbl p (show (0 : Int) ≤ Int32.toInt p ∧ Int32.toInt p ≤ 5 by omega)) ⟨by decide, by decide⟩ rfl (Nat.le_of_ble_eq_true rfl) ⟨Nat.zero_le _, Nat.zero_le _⟩ (fun E7 hT9 => ?_)
      obtain ⟨fo9, fx9, fy9, h899, h909, h919, hT9, hJ8⟩ := hT9
      have hbm9 := hbl (p.toInt).toNat
      have hox9 : OXm fo9 fx9 ((fl (p.toInt).toNat).toInt).toNat := fun j hj hq => by have q := hT9 j hj; rw [q.1] at hq; rw [q.2.1]; exact hLX _ (by omega) hq
      refine v_aload_n C 0 dX9_run_22 rfl rfl ?_
      obtain ⟨im16, hM16, hb16⟩ := hJ8.1
      have hq16 := hM16.b
      refine v_cVi C dX9_run_23 lX9_222 mX9_mixOf 68 (by omega) hM16.2.2.1 (by decide) rfl (t_X9_mixOf l G ad hJ8.self h899 (show ((fl (p.toInt).toNat).toInt).toNat ≤ 10 by omega) (show ((((fl (p.toInt).toNat).toInt).toNat : Nat) : Int) ≤ (fl (p.toInt).toNat).toInt ∧ (fl (p.toInt).toNat).toInt ≤ ((((fl (p.toInt).toNat).toInt).toNat : Nat) : Int) by omega)) ⟨by decide, by decide⟩ rfl (Nat.le_of_ble_eq_true rfl) ⟨Nat.zero_le _, Nat.zero_le _⟩ (fun r11 E12 hp13 => ?_)
      rcases hp13 with ⟨hp13, hp13k, hJ14⟩ | ⟨hp13, hJ14⟩
      · have hJ15 := hJ8.trans (fun _ => PT_PR) hJ14
        have e17 := (hJ14.2.1.1 89 (by unfold PR; omega)).trans h899
        have e18 := (hJ14.2.1.1 90 (by unfold PR; omega)).trans h909
        have e19 := (hJ14.2.1.1 91 (by unfold PR; omega)).trans h919
        obtain rfl : r11 = (-6 : Int32) := ti_ext (hp13.trans (by decide))
        refine v_bipush (v := (-6)) C dX9_run_26 (by decide) ?_
        refine b_icmp_ne C 48 dX9_run_28 (by decide) (show ((-6) : Int32).toInt = (-6) by decide) (show ((-6) : Int32).toInt = (-6) by decide) (fun c20 => absurd c20 (by decide)) (fun c20 => ?_)
        refine v_aload_n C 0 dX9_run_31 rfl rfl ?_
        refine v_iload_n C 2 dX9_run_32 rfl rfl ?_
        obtain ⟨im25, hM25, hb25⟩ := hJ15.1
        have hq25 := hM25.b
        refine v_cVi C dX9_run_33 lX9_253 mX9_runs 68 (by omega) hM25.2.2.1 (by decide) rfl (t_X9_runs l G ad hJ15.self e17 e18 (show ((fl (p.toInt).toNat).toInt).toNat ≤ 10 by omega) hp13k hox9 (show ((((fl (p.toInt).toNat).toInt).toNat : Nat) : Int) ≤ (fl (p.toInt).toNat).toInt ∧ (fl (p.toInt).toNat).toInt ≤ ((((fl (p.toInt).toNat).toInt).toNat : Nat) : Int) by omega) v) ⟨by decide, by decide⟩ rfl (Nat.le_of_ble_eq_true rfl) ⟨Nat.zero_le _, Nat.zero_le _⟩ (fun r21 E22 hp23 => ?_)
        obtain ⟨hp23, hJ24⟩ := hp23
        have hJ26 := hJ15.trans (fun _ => PT_PR) hJ24
        have e27 := (hJ24.2.1.1 89 (by unfold PR; omega)).trans e17
        have e28 := (hJ24.2.1.1 90 (by unfold PR; omega)).trans e18
        have e29 := (hJ24.2.1.1 91 (by unfold PR; omega)).trans e19
        rcases hp23 with rfl | rfl
        · refine b_if_eq C 48 dX9_run_36 (by decide) (show (0 : Int32).toInt = 0 by decide) (fun c30 => ?_) (fun c30 => absurd c30 (by decide))
          refine v_ldc C dX9_run_48 kX9_252 ?_
          exact v_ret C dX9_run_50 rfl rfl ⟨(ti_any (-2000000000)), ((hJ26.outB (k := 35) (by decide) (show (bd 35).1 ≤ 0 by omega) (show 8 ≤ (bd 35).2 by omega)).outB (k := 32) (by decide) (show (bd 32).1 ≤ (fl (p.toInt).toNat).toInt by omega) (show (fl (p.toInt).toNat).toInt ≤ (bd 32).2 by omega))⟩
        · refine b_if_eq C 48 dX9_run_36 (by decide) (show (1 : Int32).toInt = 1 by decide) (fun c31 => absurd c31 (by decide)) (fun c31 => ?_)
          refine v_aload_n C 0 dX9_run_39 rfl rfl ?_
          obtain ⟨im32, hM32, hb32⟩ := hJ26.1
          have hq32 := hM32.b
          refine v_getr C 68 dX9_run_40 fX9_100 (by omega) hM32.2.2.1 rfl rfl ?_
          refine v_iconst (v := 0) C dX9_run_43 (by decide) ?_
          obtain ⟨f34, hE34, hb34⟩ := hJ26.2.1.getA (b := 93) (by omega) rfl
          refine v_ald (v := f34 0) C 93 dX9_run_44 (by omega) hE34 (ti_in (show (0 : Int32).toInt = 0 by decide) (by omega) (by omega)) (congrArg f34 (by decide)) ?_
          refine v_top (fun x35 _ => ?_)
          refine v_goto C 50 dX9_run_45 (by decide) ?_
          exact v_ret C dX9_run_50 rfl rfl ⟨(ti_any x35), ((hJ26.outB (k := 35) (by decide) (show (bd 35).1 ≤ 0 by omega) (show 8 ≤ (bd 35).2 by omega)).outB (k := 32) (by decide) (show (bd 32).1 ≤ (fl (p.toInt).toNat).toInt by omega) (show (fl (p.toInt).toNat).toInt ≤ (bd 32).2 by omega))⟩
      · have hJ15 := hJ8.trans (fun _ => PT_PR) hJ14
        have e36 := (hJ14.2.1.1 89 (by unfold PR; omega)).trans h899
        have e37 := (hJ14.2.1.1 90 (by unfold PR; omega)).trans h909
        have e38 := (hJ14.2.1.1 91 (by unfold PR; omega)).trans h919
        refine v_bipush (v := (-6)) C dX9_run_26 (by decide) ?_
        refine b_icmp_ne C 48 dX9_run_28 (by decide) (rfl : Int32.toInt r11 = _) (show ((-6) : Int32).toInt = (-6) by decide) (fun c39 => ?_) (fun c39 => absurd (by have := c39; omega) hp13)
        refine v_ldc C dX9_run_48 kX9_252 ?_
        exact v_ret C dX9_run_50 rfl rfl ⟨(ti_any (-2000000000)), ((hJ15.outB (k := 35) (by decide) (show (bd 35).1 ≤ 0 by omega) (show 8 ≤ (bd 35).2 by omega)).outB (k := 32) (by decide) (show (bd 32).1 ≤ (fl (p.toInt).toNat).toInt by omega) (show (fl (p.toInt).toNat).toInt ≤ (bd 32).2 by omega))⟩
    · refine b_if_ne C 17 dX9_run_11 (by decide) (show (0 : Int32).toInt = 0 by decide) (fun c40 => absurd c40 (by decide)) (fun c40 => ?_)
      refine v_ldc C dX9_run_14 kX9_252 ?_
      exact v_ret C dX9_run_16 rfl rfl ⟨(ti_any (-2000000000)), hJ⟩
  · refine b_if_eq C 14 dX9_run_4 (by decide) (show (0 : Int32).toInt = 0 by decide) (fun c41 => ?_) (fun c41 => absurd c41 (by decide))
    refine v_ldc C dX9_run_14 kX9_252 ?_
    exact v_ret C dX9_run_16 rfl rfl ⟨(ti_any (-2000000000)), hJ⟩

set_option maxRecDepth 20000 in
theorem t_X9_keeps (l : Launch) (G : Gl) (ad : Nat → Nat) {n : Nat} {ic md : Nat → Int32} {bd : Nat → Int × Int} {E0 E : Nat → va_E} (hJ : JM G ad n ic md bd PT E0 E) {gop gx gy fl : Nat → Int32} (hgo : E0 85 = aI G 60 gop) (hgx : E0 86 = aI G 60 gx) (hgy : E0 87 = aI G 60 gy) (hgl : E0 88 = aI G 6 fl) (hbl : ∀ k, 0 ≤ (fl k).toInt ∧ (fl k).toInt ≤ 10) (hLX : LXg gop gx) (hf32 : ((0 : Int) ≤ (bd 32).1 ∧ (bd 32).2 ≤ 10) ∧ ((bd 32).1 ≤ 0 ∧ 10 ≤ (bd 32).2)) (hf35 : ((0 : Int) ≤ (bd 35).1 ∧ (bd 35).2 ≤ 8) ∧ ((bd 35).1 ≤ 0 ∧ 8 ≤ (bd 35).2)) (p : Int32) (x : Int32) (y : Int32) (v : Int32) : CtI l G yX9_keeps cX9_keeps 5 .int 9 223 (n) ad E [.ref (ad 68), .int p, .int x, .int y, .int v] (fun r E' => ((-2147483648 : Int) ≤ r.toInt ∧ r.toInt ≤ 2147483647) ∧ JM G ad n ic md bd PT E0 E') := by
  refine CtI.of (by decide) (Nat.le_of_ble_eq_true rfl) (fun X A C => ?_)
  refine v_sub (lv' := [(0, .ref (ad 68)), (1, .int p), (2, .int x), (3, .int y), (4, .int v)]) [0, 1, 2, 3, 4] rfl ?_
  have hn := hJ.hn
  have hz16 := hJ.2.2.2.2
  refine v_iload_n C 1 dX9_keeps_0 rfl rfl ?_
  refine v_cSp C dX9_keeps_1 lX9_194 mX9_isProgram (t_X9_isProgram l G ad hJ.self p) ⟨by decide, by decide⟩ rfl (Nat.le_of_ble_eq_true rfl) ⟨Nat.zero_le _, Nat.zero_le _⟩ (fun r1 hp2 => ?_)
  rcases hp2 with ⟨rfl, hp2⟩ | ⟨rfl, hp2⟩
  · refine b_if_eq C 24 dX9_keeps_4 (by decide) (show (1 : Int32).toInt = 1 by decide) (fun c3 => absurd c3 (by decide)) (fun c3 => ?_)
    refine v_aload_n C 0 dX9_keeps_7 rfl rfl ?_
    refine v_iload_n C 2 dX9_keeps_8 rfl rfl ?_
    refine v_iload_n C 3 dX9_keeps_9 rfl rfl ?_
    obtain ⟨im6, hM6, hb6⟩ := hJ.1
    have hq6 := hM6.b
    refine v_cVp C dX9_keeps_10 lX9_259 mX9_isLaw 68 (by omega) hM6.2.2.1 (by decide) rfl (t_X9_isLaw l G ad hJ.self x y) ⟨by decide, by decide⟩ rfl (Nat.le_of_ble_eq_true rfl) ⟨Nat.zero_le _, Nat.zero_le _⟩ (fun r4 hp5 => ?_)
    rcases hp5 with ⟨rfl, hp5⟩ | ⟨rfl, hp5⟩
    · refine b_if_eq C 24 dX9_keeps_13 (by decide) (show (1 : Int32).toInt = 1 by decide) (fun c7 => absurd c7 (by decide)) (fun c7 => ?_)
      refine v_iload C 4 dX9_keeps_16 rfl ?_
      refine v_cSp C dX9_keeps_18 lX9_179 mX9_isMoment (t_X9_isMoment l G ad hJ.self v) ⟨by decide, by decide⟩ rfl (Nat.le_of_ble_eq_true rfl) ⟨Nat.zero_le _, Nat.zero_le _⟩ (fun r8 hp9 => ?_)
      rcases hp9 with ⟨rfl, hp9⟩ | ⟨rfl, hp9⟩
      · refine b_if_ne C 26 dX9_keeps_21 (by decide) (show (1 : Int32).toInt = 1 by decide) (fun c10 => ?_) (fun c10 => absurd c10 (by decide))
        refine v_aload_n C 0 dX9_keeps_26 rfl rfl ?_
        refine v_iload_n C 1 dX9_keeps_27 rfl rfl ?_
        refine v_cVv C dX9_keeps_28 lX9_219 mX9_take 68 (by omega) hM6.2.2.1 (by decide) rfl (t_X9_take l G ad hJ hgo hgx hgy hgl hbl p (show (0 : Int) ≤ Int32.toInt p ∧ Int32.toInt p ≤ 5 by omega)) ⟨by decide, by decide⟩ rfl (Nat.le_of_ble_eq_true rfl) ⟨Nat.zero_le _, Nat.zero_le _⟩ (fun E11 hT13 => ?_)
        obtain ⟨fo13, fx13, fy13, h8913, h9013, h9113, hT13, hJ12⟩ := hT13
        have hbm13 := hbl (p.toInt).toNat
        have hox13 : OXm fo13 fx13 ((fl (p.toInt).toNat).toInt).toNat := fun j hj hq => by have q := hT13 j hj; rw [q.1] at hq; rw [q.2.1]; exact hLX _ (by omega) hq
        refine v_aload_n C 0 dX9_keeps_31 rfl rfl ?_
        obtain ⟨im19, hM19, hb19⟩ := hJ12.1
        have hq19 := hM19.b
        refine v_cVi C dX9_keeps_32 lX9_222 mX9_mixOf 68 (by omega) hM19.2.2.1 (by decide) rfl (t_X9_mixOf l G ad hJ12.self h8913 (show ((fl (p.toInt).toNat).toInt).toNat ≤ 10 by omega) (show ((((fl (p.toInt).toNat).toInt).toNat : Nat) : Int) ≤ (fl (p.toInt).toNat).toInt ∧ (fl (p.toInt).toNat).toInt ≤ ((((fl (p.toInt).toNat).toInt).toNat : Nat) : Int) by omega)) ⟨by decide, by decide⟩ rfl (Nat.le_of_ble_eq_true rfl) ⟨Nat.zero_le _, Nat.zero_le _⟩ (fun r14 E15 hp16 => ?_)
        rcases hp16 with ⟨hp16, hp16k, hJ17⟩ | ⟨hp16, hJ17⟩
        · have hJ18 := hJ12.trans (fun _ => PT_PR) hJ17
          have e20 := (hJ17.2.1.1 89 (by unfold PR; omega)).trans h8913
          have e21 := (hJ17.2.1.1 90 (by unfold PR; omega)).trans h9013
          have e22 := (hJ17.2.1.1 91 (by unfold PR; omega)).trans h9113
          obtain rfl : r14 = (-6 : Int32) := ti_ext (hp16.trans (by decide))
          refine v_bipush (v := (-6)) C dX9_keeps_35 (by decide) ?_
          refine b_icmp_eq C 45 dX9_keeps_37 (by decide) (show ((-6) : Int32).toInt = (-6) by decide) (show ((-6) : Int32).toInt = (-6) by decide) (fun c23 => ?_) (fun c23 => absurd c23 (by decide))
          refine v_aload_n C 0 dX9_keeps_45 rfl rfl ?_
          refine v_iload_n C 2 dX9_keeps_46 rfl rfl ?_
          refine v_iload_n C 3 dX9_keeps_47 rfl rfl ?_
          refine v_iload C 4 dX9_keeps_48 rfl ?_
          obtain ⟨im28, hM28, hb28⟩ := hJ18.1
          have hq28 := hM28.b
          refine v_cVi C dX9_keeps_50 lX9_262 mX9_isKept 68 (by omega) hM28.2.2.1 (by decide) rfl (t_X9_isKept l G ad hJ18.self e20 e21 (show ((fl (p.toInt).toNat).toInt).toNat ≤ 10 by omega) hp16k hox13 (show ((((fl (p.toInt).toNat).toInt).toNat : Nat) : Int) ≤ (fl (p.toInt).toNat).toInt ∧ (fl (p.toInt).toNat).toInt ≤ ((((fl (p.toInt).toNat).toInt).toNat : Nat) : Int) by omega) x (show (0 : Int) ≤ Int32.toInt x ∧ Int32.toInt x ≤ 2147483647 by have := ti_any x; omega) y v (by omega)) ⟨by decide, by decide⟩ rfl (Nat.le_of_ble_eq_true rfl) ⟨Nat.zero_le _, Nat.zero_le _⟩ (fun r24 E25 hp26 => ?_)
          obtain ⟨hp26, hJ27⟩ := hp26
          have hJ29 := hJ18.trans (fun _ => PT_PR) hJ27
          have e30 := (hJ27.2.1.1 89 (by unfold PR; omega)).trans e20
          have e31 := (hJ27.2.1.1 90 (by unfold PR; omega)).trans e21
          have e32 := (hJ27.2.1.1 91 (by unfold PR; omega)).trans e22
          rcases hp26 with rfl | rfl
          · refine b_if_eq C 60 dX9_keeps_53 (by decide) (show (0 : Int32).toInt = 0 by decide) (fun c33 => ?_) (fun c33 => absurd c33 (by decide))
            refine v_iconst (v := 0) C dX9_keeps_60 (by decide) ?_
            exact v_ret C dX9_keeps_61 rfl rfl ⟨(ti_any 0), ((hJ29.outB (k := 35) (by decide) (show (bd 35).1 ≤ 0 by omega) (show 8 ≤ (bd 35).2 by omega)).outB (k := 32) (by decide) (show (bd 32).1 ≤ (fl (p.toInt).toNat).toInt by omega) (show (fl (p.toInt).toNat).toInt ≤ (bd 32).2 by omega))⟩
          · refine b_if_eq C 60 dX9_keeps_53 (by decide) (show (1 : Int32).toInt = 1 by decide) (fun c34 => absurd c34 (by decide)) (fun c34 => ?_)
            refine v_iconst (v := 1) C dX9_keeps_56 (by decide) ?_
            refine v_goto C 61 dX9_keeps_57 (by decide) ?_
            exact v_ret C dX9_keeps_61 rfl rfl ⟨(ti_any 1), ((hJ29.outB (k := 35) (by decide) (show (bd 35).1 ≤ 0 by omega) (show 8 ≤ (bd 35).2 by omega)).outB (k := 32) (by decide) (show (bd 32).1 ≤ (fl (p.toInt).toNat).toInt by omega) (show (fl (p.toInt).toNat).toInt ≤ (bd 32).2 by omega))⟩
        · have hJ18 := hJ12.trans (fun _ => PT_PR) hJ17
          have e35 := (hJ17.2.1.1 89 (by unfold PR; omega)).trans h8913
          have e36 := (hJ17.2.1.1 90 (by unfold PR; omega)).trans h9013
          have e37 := (hJ17.2.1.1 91 (by unfold PR; omega)).trans h9113
          refine v_bipush (v := (-6)) C dX9_keeps_35 (by decide) ?_
          refine b_icmp_eq C 45 dX9_keeps_37 (by decide) (rfl : Int32.toInt r14 = _) (show ((-6) : Int32).toInt = (-6) by decide) (fun c38 => absurd c38 hp16) (fun c38 => ?_)
          refine v_bipush (v := (-4)) C dX9_keeps_40 (by decide) ?_
          refine v_goto C 61 dX9_keeps_42 (by decide) ?_
          exact v_ret C dX9_keeps_61 rfl rfl ⟨(ti_any (-4)), ((hJ18.outB (k := 35) (by decide) (show (bd 35).1 ≤ 0 by omega) (show 8 ≤ (bd 35).2 by omega)).outB (k := 32) (by decide) (show (bd 32).1 ≤ (fl (p.toInt).toNat).toInt by omega) (show (fl (p.toInt).toNat).toInt ≤ (bd 32).2 by omega))⟩
      · refine b_if_ne C 26 dX9_keeps_21 (by decide) (show (0 : Int32).toInt = 0 by decide) (fun c39 => absurd c39 (by decide)) (fun c39 => ?_)
        refine v_iconst (v := (-1)) C dX9_keeps_24 (by decide) ?_
        exact v_ret C dX9_keeps_25 rfl rfl ⟨(ti_any (-1)), hJ⟩
    · refine b_if_eq C 24 dX9_keeps_13 (by decide) (show (0 : Int32).toInt = 0 by decide) (fun c40 => ?_) (fun c40 => absurd c40 (by decide))
      refine v_iconst (v := (-1)) C dX9_keeps_24 (by decide) ?_
      exact v_ret C dX9_keeps_25 rfl rfl ⟨(ti_any (-1)), hJ⟩
  · refine b_if_eq C 24 dX9_keeps_4 (by decide) (show (0 : Int32).toInt = 0 by decide) (fun c41 => ?_) (fun c41 => absurd c41 (by decide))
    refine v_iconst (v := (-1)) C dX9_keeps_24 (by decide) ?_
    exact v_ret C dX9_keeps_25 rfl rfl ⟨(ti_any (-1)), hJ⟩

