set_option maxRecDepth 20000 in
theorem t_X9_addOdd (l : Launch) (G : Gl) (ad : Nat → Nat) {n : Nat} {ic md : Nat → Int32} {bd : Nat → Int × Int} {E0 E : Nat → va_E} {c : Int} (hJ : JM G ad n ic md (upB bd 41 (0, c)) PR E0 E) (hc : 0 ≤ c ∧ c ≤ 39999) (x : Int32) (y : Int32) (z : Int32) : CtV l G yX9_addOdd cX9_addOdd 4 0 0 (n) ad E [.ref (ad 68), .int x, .int y, .int z] (fun E' => JM G ad n ic md (upB bd 41 (0, c + 1)) PR E0 E') := by
  refine CtV.of (by decide) (Nat.le_of_ble_eq_true rfl) (fun X A C => ?_)
  refine v_sub (lv' := [(0, .ref (ad 68)), (1, .int x), (2, .int y), (3, .int z)]) [0, 1, 2, 3] rfl ?_
  have hn := hJ.hn
  have hz16 := upB_n16 (by decide) hJ.2.2.2.2
  refine v_iload_n C 1 dX9_addOdd_0 rfl rfl ?_
  refine v_iload_n C 2 dX9_addOdd_1 rfl rfl ?_
  refine b_icmp_lt C 30 dX9_addOdd_2 (by decide) (rfl : Int32.toInt x = _) (rfl : Int32.toInt y = _) (fun c1 => ?_) (fun c1 => ?_)
  · exact v_vret C dX9_addOdd_30 rfl (hJ.toB (by decide) (by omega) (by omega))
  · refine v_iload_n C 1 dX9_addOdd_5 rfl rfl ?_
    refine v_iload_n C 3 dX9_addOdd_6 rfl rfl ?_
    refine b_icmp_gt C 30 dX9_addOdd_7 (by decide) (rfl : Int32.toInt x = _) (rfl : Int32.toInt z = _) (fun c2 => ?_) (fun c2 => ?_)
    · exact v_vret C dX9_addOdd_30 rfl (hJ.toB (by decide) (by omega) (by omega))
    · refine v_aload_n C 0 dX9_addOdd_10 rfl rfl ?_
      obtain ⟨im3, hM3, hb3⟩ := hJ.1
      have hq3 := hM3.b
      refine v_getr C 68 dX9_addOdd_11 fX9_113 (by omega) hM3.2.2.1 rfl rfl ?_
      refine v_aload_n C 0 dX9_addOdd_14 rfl rfl ?_
      refine v_geti (v := im3 41) C 68 dX9_addOdd_15 fX9_265 (by omega) hM3.2.2.1 rfl rfl ?_
      have him3_41 : (0 : Int) ≤ (im3 41).toInt ∧ (im3 41).toInt ≤ c := hb3 41
      refine v_iload_n C 1 dX9_addOdd_18 rfl rfl ?_
      obtain ⟨f5, hE5, hb5⟩ := hJ.2.1.getA (b := 97) (by omega) rfl
      refine v_ast C 97 dX9_addOdd_19 (by omega) hE5 (ti_in (rfl : Int32.toInt (im3 41) = _) (by omega) (by omega)) (fun E6 hE6_97 oE6 => ?_)
      rw [ti_cl (rfl : Int32.toInt (im3 41) = _)] at hE6_97
      have hE6_68 := (oE6 68 (by decide)).trans hM3.2.2.1
      have hJ7 := hJ.with (hJ.2.1.setA rfl (by unfold PR; omega) hb5 (ti_any x) hE6_97 oE6) (oE6 68 (by decide)) (oE6 69 (by decide)) (oE6 70 (by decide))
      have hM8 := hM3.of (oE6 68 (by decide)) (oE6 69 (by decide)) (oE6 70 (by decide))
      refine v_aload_n C 0 dX9_addOdd_20 rfl rfl ?_
      refine v_dup C dX9_addOdd_21 rfl ?_
      refine v_geti (v := im3 41) C 68 dX9_addOdd_22 fX9_265 (by omega) hM8.2.2.1 rfl rfl ?_
      refine v_iconst (v := 1) C dX9_addOdd_25 (by decide) ?_
      refine v_iadd C dX9_addOdd_26 ?_
      refine v_top (fun x9 ex9 => ?_)
      have hx9 : x9.toInt = ((im3 41).toInt + 1) := by rw [ex9]; exact ti_add (rfl : Int32.toInt (im3 41) = _) (show (1 : Int32).toInt = 1 by decide) (by omega) (by omega)
      refine v_puti C 68 dX9_addOdd_27 fX9_265 (by omega) hM8.2.2.1 rfl rfl rfl rfl (fun E10 hE10_68 oE10 => ?_)
      obtain ⟨hJ11, hM12, hb13⟩ := hJ7.putB hM8 hb3 (k := 41) (v := x9) (by decide) (by unfold PR; omega) hE10_68 oE10
      exact v_vret C dX9_addOdd_30 rfl (hJ11.toB (by decide) (by omega) (by omega))

set_option maxRecDepth 20000 in
theorem t_X9_sink (l : Launch) (G : Gl) (ad : Nat → Nat) {n : Nat} {ic md : Nat → Int32} {bd : Nat → Int × Int} {E0 E : Nat → va_E} (hJ : JM G ad n ic md bd PR E0 E) (x : Int32) (hx : (0 : Int) ≤ x.toInt ∧ x.toInt ≤ 40000) (y : Int32) (hy : (0 : Int) ≤ y.toInt ∧ y.toInt ≤ 40000) : CtV l G yX9_sink cX9_sink 7 0 0 (n) ad E [.ref (ad 68), .int x, .int y] (fun E' => JM G ad n ic md bd PR E0 E') := by
  refine CtV.of (by decide) (Nat.le_of_ble_eq_true rfl) (fun X A C => ?_)
  refine v_sub (lv' := [(0, .ref (ad 68)), (1, .int x), (2, .int y)]) [0, 1, 2] rfl ?_
  have hn := hJ.hn
  have hz16 := hJ.2.2.2.2
  refine v_iload_n C 1 dX9_sink_0 rfl rfl ?_
  refine v_istore_n (lv' := [(0, .ref (ad 68)), (1, .int x), (2, .int y), (3, .int x)]) C [1, 2, 3, 0] dX9_sink_1 rfl (by decide) rfl ?_
  refine v_iconst (v := 1) C dX9_sink_2 (by decide) ?_
  refine v_istore (lv' := [(0, .ref (ad 68)), (1, .int x), (2, .int y), (3, .int x), (4, .int 1)]) C [1, 2, 3, 4, 0] dX9_sink_3 (by decide) rfl ?_
  have LP1 : ∀ (t : Nat) (E4 : Nat → va_E) (y2 : Int32) (y3 : Int32), JM G ad n ic md bd PR E0 E4 → ((0 : Int) ≤ y2.toInt ∧ y2.toInt ≤ 40000) → ((0 : Int) ≤ y3.toInt ∧ y3.toInt ≤ 1) → 40001 - y2.toInt + y3.toInt < (t : Int) → V X G A 7 (QV X G A (n) ad (fun E' => JM G ad n ic md bd PR E0 E')) n ad 0 0 E4 5 [(0, .ref (ad 68)), (1, .int x), (2, .int y), (3, .int y2), (4, .int y3)] [] := by
    intro t8
    induction t8 with
    | zero => intro E4 y2 y3 hJ5 hy2 hy3 hm7; exfalso; omega
    | succ t8 ih6 =>
      intro E4 y2 y3 hJ5 hy2 hy3 hm7
      refine v_iload C 4 dX9_sink_5 rfl ?_
      refine b_if_eq C 128 dX9_sink_7 (by decide) (rfl : Int32.toInt y3 = _) (fun c9 => ?_) (fun c9 => ?_)
      · exact v_vret C dX9_sink_128 rfl hJ5
      · refine v_iconst (v := 2) C dX9_sink_10 (by decide) ?_
        refine v_iload_n C 3 dX9_sink_11 rfl rfl ?_
        refine v_imul C dX9_sink_12 ?_
        refine v_top (fun x10 ex10 => ?_)
        have hx10 : x10.toInt = (2 * y2.toInt) := by rw [ex10]; exact ti_mul (show (2 : Int32).toInt = 2 by decide) (rfl : Int32.toInt y2 = _) (by omega) (by omega)
        refine v_iconst (v := 1) C dX9_sink_13 (by decide) ?_
        refine v_iadd C dX9_sink_14 ?_
        refine v_top (fun x11 ex11 => ?_)
        have hx11 : x11.toInt = ((2 * y2.toInt) + 1) := by rw [ex11]; exact ti_add hx10 (show (1 : Int32).toInt = 1 by decide) (by omega) (by omega)
        refine v_iload_n C 2 dX9_sink_15 rfl rfl ?_
        refine b_icmp_ge C 128 dX9_sink_16 (by decide) hx11 (rfl : Int32.toInt y = _) (fun c12 => ?_) (fun c12 => ?_)
        · exact v_vret C dX9_sink_128 rfl hJ5
        · refine v_iconst (v := 2) C dX9_sink_19 (by decide) ?_
          refine v_iload_n C 3 dX9_sink_20 rfl rfl ?_
          refine v_imul C dX9_sink_21 ?_
          refine v_top (fun x13 ex13 => ?_)
          have hx13 : x13.toInt = (2 * y2.toInt) := by rw [ex13]; exact ti_mul (show (2 : Int32).toInt = 2 by decide) (rfl : Int32.toInt y2 = _) (by omega) (by omega)
          refine v_iconst (v := 1) C dX9_sink_22 (by decide) ?_
          refine v_iadd C dX9_sink_23 ?_
          refine v_top (fun x14 ex14 => ?_)
          have hx14 : x14.toInt = ((2 * y2.toInt) + 1) := by rw [ex14]; exact ti_add hx13 (show (1 : Int32).toInt = 1 by decide) (by omega) (by omega)
          refine v_istore (lv' := [(0, .ref (ad 68)), (1, .int x), (2, .int y), (3, .int y2), (4, .int y3), (5, .int x14)]) C [1, 2, 3, 4, 5, 0] dX9_sink_24 (by decide) rfl ?_
          refine v_iload C 5 dX9_sink_26 rfl ?_
          refine v_iconst (v := 1) C dX9_sink_28 (by decide) ?_
          refine v_iadd C dX9_sink_29 ?_
          refine v_top (fun x15 ex15 => ?_)
          have hx15 : x15.toInt = (((2 * y2.toInt) + 1) + 1) := by rw [ex15]; exact ti_add hx14 (show (1 : Int32).toInt = 1 by decide) (by omega) (by omega)
          refine v_iload_n C 2 dX9_sink_30 rfl rfl ?_
          refine b_icmp_ge C 60 dX9_sink_31 (by decide) hx15 (rfl : Int32.toInt y = _) (fun c16 => ?_) (fun c16 => ?_)
          · refine v_iload C 5 dX9_sink_60 rfl ?_
            refine v_istore (lv' := [(0, .ref (ad 68)), (1, .int x), (2, .int y), (3, .int y2), (4, .int y3), (5, .int x14)]) C [1, 2, 3, 4, 5, 0] dX9_sink_62 (by decide) rfl ?_
            refine v_aload_n C 0 dX9_sink_64 rfl rfl ?_
            obtain ⟨im17, hM17, hb17⟩ := hJ5.1
            have hq17 := hM17.b
            refine v_getr C 68 dX9_sink_65 fX9_113 (by omega) hM17.2.2.1 rfl rfl ?_
            refine v_iload C 5 dX9_sink_68 rfl ?_
            obtain ⟨f19, hE19, hb19⟩ := hJ5.2.1.getA (b := 97) (by omega) rfl
            refine v_ald (v := f19 (((2 * y2.toInt) + 1)).toNat) C 97 dX9_sink_70 (by omega) hE19 (ti_in hx14 (by omega) (by omega)) (by rw [ti_cl hx14]) ?_
            refine v_top (fun x20 _ => ?_)
            refine v_aload_n C 0 dX9_sink_71 rfl rfl ?_
            refine v_getr C 68 dX9_sink_72 fX9_113 (by omega) hM17.2.2.1 rfl rfl ?_
            refine v_iload_n C 3 dX9_sink_75 rfl rfl ?_
            refine v_ald (v := f19 (y2.toInt).toNat) C 97 dX9_sink_76 (by omega) hE19 (ti_in (rfl : Int32.toInt y2 = _) (by omega) (by omega)) (by rw [ti_cl (rfl : Int32.toInt y2 = _)]) ?_
            refine v_top (fun x21 _ => ?_)
            refine b_icmp_le C 84 dX9_sink_77 (by decide) (rfl : Int32.toInt x20 = _) (rfl : Int32.toInt x21 = _) (fun c22 => ?_) (fun c22 => ?_)
            · refine v_iconst (v := 0) C dX9_sink_84 (by decide) ?_
              refine v_istore (lv' := [(0, .ref (ad 68)), (1, .int x), (2, .int y), (3, .int y2), (4, .int 0), (5, .int x14)]) C [1, 2, 3, 4, 0, 5] dX9_sink_85 (by decide) rfl ?_
              refine v_iload C 4 dX9_sink_87 rfl ?_
              refine b_if_eq C 125 dX9_sink_89 (by decide) (show (0 : Int32).toInt = 0 by decide) (fun c23 => ?_) (fun c23 => absurd c23 (by decide))
              refine v_goto C 5 dX9_sink_125 (by decide) ?_
              refine v_sub (lv' := [(0, .ref (ad 68)), (1, .int x), (2, .int y), (3, .int y2), (4, .int 0)]) [0, 1, 2, 3, 4] rfl ?_
              exact ih6 _ y2 0 hJ5 (by have := (show (0 : Int32).toInt = 0 by decide); omega) (by have := (show (0 : Int32).toInt = 0 by decide); omega) (by have := (show (0 : Int32).toInt = 0 by decide); omega)
            · refine v_iconst (v := 1) C dX9_sink_80 (by decide) ?_
              refine v_goto C 85 dX9_sink_81 (by decide) ?_
              refine v_istore (lv' := [(0, .ref (ad 68)), (1, .int x), (2, .int y), (3, .int y2), (4, .int 1), (5, .int x14)]) C [1, 2, 3, 4, 0, 5] dX9_sink_85 (by decide) rfl ?_
              refine v_iload C 4 dX9_sink_87 rfl ?_
              refine b_if_eq C 125 dX9_sink_89 (by decide) (show (1 : Int32).toInt = 1 by decide) (fun c24 => absurd c24 (by decide)) (fun c24 => ?_)
              refine v_aload_n C 0 dX9_sink_92 rfl rfl ?_
              refine v_getr C 68 dX9_sink_93 fX9_113 (by omega) hM17.2.2.1 rfl rfl ?_
              refine v_iload C 5 dX9_sink_96 rfl ?_
              refine v_ald (v := f19 (((2 * y2.toInt) + 1)).toNat) C 97 dX9_sink_98 (by omega) hE19 (ti_in hx14 (by omega) (by omega)) (by rw [ti_cl hx14]) ?_
              refine v_top (fun x25 _ => ?_)
              refine v_istore (lv' := [(0, .ref (ad 68)), (1, .int x), (2, .int y), (3, .int y2), (4, .int 1), (5, .int x14), (6, .int x25)]) C [1, 2, 3, 4, 5, 6, 0] dX9_sink_99 (by decide) rfl ?_
              refine v_aload_n C 0 dX9_sink_101 rfl rfl ?_
              refine v_getr C 68 dX9_sink_102 fX9_113 (by omega) hM17.2.2.1 rfl rfl ?_
              refine v_iload C 5 dX9_sink_105 rfl ?_
              refine v_aload_n C 0 dX9_sink_107 rfl rfl ?_
              refine v_getr C 68 dX9_sink_108 fX9_113 (by omega) hM17.2.2.1 rfl rfl ?_
              refine v_iload_n C 3 dX9_sink_111 rfl rfl ?_
              refine v_ald (v := f19 (y2.toInt).toNat) C 97 dX9_sink_112 (by omega) hE19 (ti_in (rfl : Int32.toInt y2 = _) (by omega) (by omega)) (by rw [ti_cl (rfl : Int32.toInt y2 = _)]) ?_
              refine v_top (fun x26 _ => ?_)
              refine v_ast C 97 dX9_sink_113 (by omega) hE19 (ti_in hx14 (by omega) (by omega)) (fun E27 hE27_97 oE27 => ?_)
              rw [ti_cl hx14] at hE27_97
              have hE27_68 := (oE27 68 (by decide)).trans hM17.2.2.1
              have hJ28 := hJ5.with (hJ5.2.1.setA rfl (by unfold PR; omega) hb19 (ti_any x26) hE27_97 oE27) (oE27 68 (by decide)) (oE27 69 (by decide)) (oE27 70 (by decide))
              have hM29 := hM17.of (oE27 68 (by decide)) (oE27 69 (by decide)) (oE27 70 (by decide))
              refine v_aload_n C 0 dX9_sink_114 rfl rfl ?_
              refine v_getr C 68 dX9_sink_115 fX9_113 (by omega) hM29.2.2.1 rfl rfl ?_
              refine v_iload_n C 3 dX9_sink_118 rfl rfl ?_
              refine v_iload C 6 dX9_sink_119 rfl ?_
              obtain ⟨f31, hE31, hb31⟩ := hJ28.2.1.getA (b := 97) (by omega) rfl
              refine v_ast C 97 dX9_sink_121 (by omega) hE31 (ti_in (rfl : Int32.toInt y2 = _) (by omega) (by omega)) (fun E32 hE32_97 oE32 => ?_)
              rw [ti_cl (rfl : Int32.toInt y2 = _)] at hE32_97
              have hE32_68 := (oE32 68 (by decide)).trans hM29.2.2.1
              have hJ33 := hJ28.with (hJ28.2.1.setA rfl (by unfold PR; omega) hb31 (ti_any x25) hE32_97 oE32) (oE32 68 (by decide)) (oE32 69 (by decide)) (oE32 70 (by decide))
              have hM34 := hM29.of (oE32 68 (by decide)) (oE32 69 (by decide)) (oE32 70 (by decide))
              refine v_iload C 5 dX9_sink_122 rfl ?_
              refine v_istore_n (lv' := [(0, .ref (ad 68)), (1, .int x), (2, .int y), (3, .int x14), (4, .int 1), (5, .int x14), (6, .int x25)]) C [1, 2, 3, 0, 4, 5, 6] dX9_sink_124 rfl (by decide) rfl ?_
              refine v_goto C 5 dX9_sink_125 (by decide) ?_
              refine v_sub (lv' := [(0, .ref (ad 68)), (1, .int x), (2, .int y), (3, .int x14), (4, .int 1)]) [0, 1, 2, 3, 4] rfl ?_
              exact ih6 _ x14 1 hJ33 (by have := hx14; have := (show (1 : Int32).toInt = 1 by decide); omega) (by have := hx14; have := (show (1 : Int32).toInt = 1 by decide); omega) (by have := hx14; have := (show (1 : Int32).toInt = 1 by decide); omega)
          · refine v_aload_n C 0 dX9_sink_34 rfl rfl ?_
            obtain ⟨im35, hM35, hb35⟩ := hJ5.1
            have hq35 := hM35.b
            refine v_getr C 68 dX9_sink_35 fX9_113 (by omega) hM35.2.2.1 rfl rfl ?_
            refine v_iload C 5 dX9_sink_38 rfl ?_
            refine v_iconst (v := 1) C dX9_sink_40 (by decide) ?_
            refine v_iadd C dX9_sink_41 ?_
            refine v_top (fun x36 ex36 => ?_)
            have hx36 : x36.toInt = (((2 * y2.toInt) + 1) + 1) := by rw [ex36]; exact ti_add hx14 (show (1 : Int32).toInt = 1 by decide) (by omega) (by omega)
            obtain ⟨f38, hE38, hb38⟩ := hJ5.2.1.getA (b := 97) (by omega) rfl
            refine v_ald (v := f38 ((((2 * y2.toInt) + 1) + 1)).toNat) C 97 dX9_sink_42 (by omega) hE38 (ti_in hx36 (by omega) (by omega)) (by rw [ti_cl hx36]) ?_
            refine v_top (fun x39 _ => ?_)
            refine v_aload_n C 0 dX9_sink_43 rfl rfl ?_
            refine v_getr C 68 dX9_sink_44 fX9_113 (by omega) hM35.2.2.1 rfl rfl ?_
            refine v_iload C 5 dX9_sink_47 rfl ?_
            refine v_ald (v := f38 (((2 * y2.toInt) + 1)).toNat) C 97 dX9_sink_49 (by omega) hE38 (ti_in hx14 (by omega) (by omega)) (by rw [ti_cl hx14]) ?_
            refine v_top (fun x40 _ => ?_)
            refine b_icmp_le C 60 dX9_sink_50 (by decide) (rfl : Int32.toInt x39 = _) (rfl : Int32.toInt x40 = _) (fun c41 => ?_) (fun c41 => ?_)
            · refine v_iload C 5 dX9_sink_60 rfl ?_
              refine v_istore (lv' := [(0, .ref (ad 68)), (1, .int x), (2, .int y), (3, .int y2), (4, .int y3), (5, .int x14)]) C [1, 2, 3, 4, 5, 0] dX9_sink_62 (by decide) rfl ?_
              refine v_aload_n C 0 dX9_sink_64 rfl rfl ?_
              refine v_getr C 68 dX9_sink_65 fX9_113 (by omega) hM35.2.2.1 rfl rfl ?_
              refine v_iload C 5 dX9_sink_68 rfl ?_
              refine v_ald (v := f38 (((2 * y2.toInt) + 1)).toNat) C 97 dX9_sink_70 (by omega) hE38 (ti_in hx14 (by omega) (by omega)) (by rw [ti_cl hx14]) ?_
              refine v_top (fun x42 _ => ?_)
              refine v_aload_n C 0 dX9_sink_71 rfl rfl ?_
              refine v_getr C 68 dX9_sink_72 fX9_113 (by omega) hM35.2.2.1 rfl rfl ?_
              refine v_iload_n C 3 dX9_sink_75 rfl rfl ?_
              refine v_ald (v := f38 (y2.toInt).toNat) C 97 dX9_sink_76 (by omega) hE38 (ti_in (rfl : Int32.toInt y2 = _) (by omega) (by omega)) (by rw [ti_cl (rfl : Int32.toInt y2 = _)]) ?_
              refine v_top (fun x43 _ => ?_)
              refine b_icmp_le C 84 dX9_sink_77 (by decide) (rfl : Int32.toInt x42 = _) (rfl : Int32.toInt x43 = _) (fun c44 => ?_) (fun c44 => ?_)
              · refine v_iconst (v := 0) C dX9_sink_84 (by decide) ?_
                refine v_istore (lv' := [(0, .ref (ad 68)), (1, .int x), (2, .int y), (3, .int y2), (4, .int 0), (5, .int x14)]) C [1, 2, 3, 4, 0, 5] dX9_sink_85 (by decide) rfl ?_
                refine v_iload C 4 dX9_sink_87 rfl ?_
                refine b_if_eq C 125 dX9_sink_89 (by decide) (show (0 : Int32).toInt = 0 by decide) (fun c45 => ?_) (fun c45 => absurd c45 (by decide))
                refine v_goto C 5 dX9_sink_125 (by decide) ?_
                refine v_sub (lv' := [(0, .ref (ad 68)), (1, .int x), (2, .int y), (3, .int y2), (4, .int 0)]) [0, 1, 2, 3, 4] rfl ?_
                exact ih6 _ y2 0 hJ5 (by have := (show (0 : Int32).toInt = 0 by decide); omega) (by have := (show (0 : Int32).toInt = 0 by decide); omega) (by have := (show (0 : Int32).toInt = 0 by decide); omega)
              · refine v_iconst (v := 1) C dX9_sink_80 (by decide) ?_
                refine v_goto C 85 dX9_sink_81 (by decide) ?_
                refine v_istore (lv' := [(0, .ref (ad 68)), (1, .int x), (2, .int y), (3, .int y2), (4, .int 1), (5, .int x14)]) C [1, 2, 3, 4, 0, 5] dX9_sink_85 (by decide) rfl ?_
                refine v_iload C 4 dX9_sink_87 rfl ?_
                refine b_if_eq C 125 dX9_sink_89 (by decide) (show (1 : Int32).toInt = 1 by decide) (fun c46 => absurd c46 (by decide)) (fun c46 => ?_)
                refine v_aload_n C 0 dX9_sink_92 rfl rfl ?_
                refine v_getr C 68 dX9_sink_93 fX9_113 (by omega) hM35.2.2.1 rfl rfl ?_
                refine v_iload C 5 dX9_sink_96 rfl ?_
                refine v_ald (v := f38 (((2 * y2.toInt) + 1)).toNat) C 97 dX9_sink_98 (by omega) hE38 (ti_in hx14 (by omega) (by omega)) (by rw [ti_cl hx14]) ?_
                refine v_top (fun x47 _ => ?_)
                refine v_istore (lv' := [(0, .ref (ad 68)), (1, .int x), (2, .int y), (3, .int y2), (4, .int 1), (5, .int x14), (6, .int x47)]) C [1, 2, 3, 4, 5, 6, 0] dX9_sink_99 (by decide) rfl ?_
                refine v_aload_n C 0 dX9_sink_101 rfl rfl ?_
                refine v_getr C 68 dX9_sink_102 fX9_113 (by omega) hM35.2.2.1 rfl rfl ?_
                refine v_iload C 5 dX9_sink_105 rfl ?_
                refine v_aload_n C 0 dX9_sink_107 rfl rfl ?_
                refine v_getr C 68 dX9_sink_108 fX9_113 (by omega) hM35.2.2.1 rfl rfl ?_
                refine v_iload_n C 3 dX9_sink_111 rfl rfl ?_
                refine v_ald (v := f38 (y2.toInt).toNat) C 97 dX9_sink_112 (by omega) hE38 (ti_in (rfl : Int32.toInt y2 = _) (by omega) (by omega)) (by rw [ti_cl (rfl : Int32.toInt y2 = _)]) ?_
                refine v_top (fun x48 _ => ?_)
                refine v_ast C 97 dX9_sink_113 (by omega) hE38 (ti_in hx14 (by omega) (by omega)) (fun E49 hE49_97 oE49 => ?_)
                rw [ti_cl hx14] at hE49_97
                have hE49_68 := (oE49 68 (by decide)).trans hM35.2.2.1
                have hJ50 := hJ5.with (hJ5.2.1.setA rfl (by unfold PR; omega) hb38 (ti_any x48) hE49_97 oE49) (oE49 68 (by decide)) (oE49 69 (by decide)) (oE49 70 (by decide))
                have hM51 := hM35.of (oE49 68 (by decide)) (oE49 69 (by decide)) (oE49 70 (by decide))
                refine v_aload_n C 0 dX9_sink_114 rfl rfl ?_
                refine v_getr C 68 dX9_sink_115 fX9_113 (by omega) hM51.2.2.1 rfl rfl ?_
                refine v_iload_n C 3 dX9_sink_118 rfl rfl ?_
                refine v_iload C 6 dX9_sink_119 rfl ?_
                obtain ⟨f53, hE53, hb53⟩ := hJ50.2.1.getA (b := 97) (by omega) rfl
                refine v_ast C 97 dX9_sink_121 (by omega) hE53 (ti_in (rfl : Int32.toInt y2 = _) (by omega) (by omega)) (fun E54 hE54_97 oE54 => ?_)
                rw [ti_cl (rfl : Int32.toInt y2 = _)] at hE54_97
                have hE54_68 := (oE54 68 (by decide)).trans hM51.2.2.1
                have hJ55 := hJ50.with (hJ50.2.1.setA rfl (by unfold PR; omega) hb53 (ti_any x47) hE54_97 oE54) (oE54 68 (by decide)) (oE54 69 (by decide)) (oE54 70 (by decide))
                have hM56 := hM51.of (oE54 68 (by decide)) (oE54 69 (by decide)) (oE54 70 (by decide))
                refine v_iload C 5 dX9_sink_122 rfl ?_
                refine v_istore_n (lv' := [(0, .ref (ad 68)), (1, .int x), (2, .int y), (3, .int x14), (4, .int 1), (5, .int x14), (6, .int x47)]) C [1, 2, 3, 0, 4, 5, 6] dX9_sink_124 rfl (by decide) rfl ?_
                refine v_goto C 5 dX9_sink_125 (by decide) ?_
                refine v_sub (lv' := [(0, .ref (ad 68)), (1, .int x), (2, .int y), (3, .int x14), (4, .int 1)]) [0, 1, 2, 3, 4] rfl ?_
                exact ih6 _ x14 1 hJ55 (by have := hx14; have := (show (1 : Int32).toInt = 1 by decide); omega) (by have := hx14; have := (show (1 : Int32).toInt = 1 by decide); omega) (by have := hx14; have := (show (1 : Int32).toInt = 1 by decide); omega)
            · refine v_iload C 5 dX9_sink_53 rfl ?_
              refine v_iconst (v := 1) C dX9_sink_55 (by decide) ?_
              refine v_iadd C dX9_sink_56 ?_
              refine v_top (fun x57 ex57 => ?_)
              have hx57 : x57.toInt = (((2 * y2.toInt) + 1) + 1) := by rw [ex57]; exact ti_add hx14 (show (1 : Int32).toInt = 1 by decide) (by omega) (by omega)
              refine v_goto C 62 dX9_sink_57 (by decide) ?_
              refine v_istore (lv' := [(0, .ref (ad 68)), (1, .int x), (2, .int y), (3, .int y2), (4, .int y3), (5, .int x57)]) C [1, 2, 3, 4, 5, 0] dX9_sink_62 (by decide) rfl ?_
              refine v_aload_n C 0 dX9_sink_64 rfl rfl ?_
              refine v_getr C 68 dX9_sink_65 fX9_113 (by omega) hM35.2.2.1 rfl rfl ?_
              refine v_iload C 5 dX9_sink_68 rfl ?_
              refine v_ald (v := f38 ((((2 * y2.toInt) + 1) + 1)).toNat) C 97 dX9_sink_70 (by omega) hE38 (ti_in hx57 (by omega) (by omega)) (by rw [ti_cl hx57]) ?_
              refine v_top (fun x58 _ => ?_)
              refine v_aload_n C 0 dX9_sink_71 rfl rfl ?_
              refine v_getr C 68 dX9_sink_72 fX9_113 (by omega) hM35.2.2.1 rfl rfl ?_
              refine v_iload_n C 3 dX9_sink_75 rfl rfl ?_
              refine v_ald (v := f38 (y2.toInt).toNat) C 97 dX9_sink_76 (by omega) hE38 (ti_in (rfl : Int32.toInt y2 = _) (by omega) (by omega)) (by rw [ti_cl (rfl : Int32.toInt y2 = _)]) ?_
              refine v_top (fun x59 _ => ?_)
              refine b_icmp_le C 84 dX9_sink_77 (by decide) (rfl : Int32.toInt x58 = _) (rfl : Int32.toInt x59 = _) (fun c60 => ?_) (fun c60 => ?_)
              · refine v_iconst (v := 0) C dX9_sink_84 (by decide) ?_
                refine v_istore (lv' := [(0, .ref (ad 68)), (1, .int x), (2, .int y), (3, .int y2), (4, .int 0), (5, .int x57)]) C [1, 2, 3, 4, 0, 5] dX9_sink_85 (by decide) rfl ?_
                refine v_iload C 4 dX9_sink_87 rfl ?_
                refine b_if_eq C 125 dX9_sink_89 (by decide) (show (0 : Int32).toInt = 0 by decide) (fun c61 => ?_) (fun c61 => absurd c61 (by decide))
                refine v_goto C 5 dX9_sink_125 (by decide) ?_
                refine v_sub (lv' := [(0, .ref (ad 68)), (1, .int x), (2, .int y), (3, .int y2), (4, .int 0)]) [0, 1, 2, 3, 4] rfl ?_
                exact ih6 _ y2 0 hJ5 (by have := (show (0 : Int32).toInt = 0 by decide); omega) (by have := (show (0 : Int32).toInt = 0 by decide); omega) (by have := (show (0 : Int32).toInt = 0 by decide); omega)
              · refine v_iconst (v := 1) C dX9_sink_80 (by decide) ?_
                refine v_goto C 85 dX9_sink_81 (by decide) ?_
                refine v_istore (lv' := [(0, .ref (ad 68)), (1, .int x), (2, .int y), (3, .int y2), (4, .int 1), (5, .int x57)]) C [1, 2, 3, 4, 0, 5] dX9_sink_85 (by decide) rfl ?_
                refine v_iload C 4 dX9_sink_87 rfl ?_
                refine b_if_eq C 125 dX9_sink_89 (by decide) (show (1 : Int32).toInt = 1 by decide) (fun c62 => absurd c62 (by decide)) (fun c62 => ?_)
                refine v_aload_n C 0 dX9_sink_92 rfl rfl ?_
                refine v_getr C 68 dX9_sink_93 fX9_113 (by omega) hM35.2.2.1 rfl rfl ?_
                refine v_iload C 5 dX9_sink_96 rfl ?_
                refine v_ald (v := f38 ((((2 * y2.toInt) + 1) + 1)).toNat) C 97 dX9_sink_98 (by omega) hE38 (ti_in hx57 (by omega) (by omega)) (by rw [ti_cl hx57]) ?_
                refine v_top (fun x63 _ => ?_)
                refine v_istore (lv' := [(0, .ref (ad 68)), (1, .int x), (2, .int y), (3, .int y2), (4, .int 1), (5, .int x57), (6, .int x63)]) C [1, 2, 3, 4, 5, 6, 0] dX9_sink_99 (by decide) rfl ?_
                refine v_aload_n C 0 dX9_sink_101 rfl rfl ?_
                refine v_getr C 68 dX9_sink_102 fX9_113 (by omega) hM35.2.2.1 rfl rfl ?_
                refine v_iload C 5 dX9_sink_105 rfl ?_
                refine v_aload_n C 0 dX9_sink_107 rfl rfl ?_
                refine v_getr C 68 dX9_sink_108 fX9_113 (by omega) hM35.2.2.1 rfl rfl ?_
                refine v_iload_n C 3 dX9_sink_111 rfl rfl ?_
                refine v_ald (v := f38 (y2.toInt).toNat) C 97 dX9_sink_112 (by omega) hE38 (ti_in (rfl : Int32.toInt y2 = _) (by omega) (by omega)) (by rw [ti_cl (rfl : Int32.toInt y2 = _)]) ?_
                refine v_top (fun x64 _ => ?_)
                refine v_ast C 97 dX9_sink_113 (by omega) hE38 (ti_in hx57 (by omega) (by omega)) (fun E65 hE65_97 oE65 => ?_)
                rw [ti_cl hx57] at hE65_97
                have hE65_68 := (oE65 68 (by decide)).trans hM35.2.2.1
                have hJ66 := hJ5.with (hJ5.2.1.setA rfl (by unfold PR; omega) hb38 (ti_any x64) hE65_97 oE65) (oE65 68 (by decide)) (oE65 69 (by decide)) (oE65 70 (by decide))
                have hM67 := hM35.of (oE65 68 (by decide)) (oE65 69 (by decide)) (oE65 70 (by decide))
                refine v_aload_n C 0 dX9_sink_114 rfl rfl ?_
                refine v_getr C 68 dX9_sink_115 fX9_113 (by omega) hM67.2.2.1 rfl rfl ?_
                refine v_iload_n C 3 dX9_sink_118 rfl rfl ?_
                refine v_iload C 6 dX9_sink_119 rfl ?_
                obtain ⟨f69, hE69, hb69⟩ := hJ66.2.1.getA (b := 97) (by omega) rfl
                refine v_ast C 97 dX9_sink_121 (by omega) hE69 (ti_in (rfl : Int32.toInt y2 = _) (by omega) (by omega)) (fun E70 hE70_97 oE70 => ?_)
                rw [ti_cl (rfl : Int32.toInt y2 = _)] at hE70_97
                have hE70_68 := (oE70 68 (by decide)).trans hM67.2.2.1
                have hJ71 := hJ66.with (hJ66.2.1.setA rfl (by unfold PR; omega) hb69 (ti_any x63) hE70_97 oE70) (oE70 68 (by decide)) (oE70 69 (by decide)) (oE70 70 (by decide))
                have hM72 := hM67.of (oE70 68 (by decide)) (oE70 69 (by decide)) (oE70 70 (by decide))
                refine v_iload C 5 dX9_sink_122 rfl ?_
                refine v_istore_n (lv' := [(0, .ref (ad 68)), (1, .int x), (2, .int y), (3, .int x57), (4, .int 1), (5, .int x57), (6, .int x63)]) C [1, 2, 3, 0, 4, 5, 6] dX9_sink_124 rfl (by decide) rfl ?_
                refine v_goto C 5 dX9_sink_125 (by decide) ?_
                refine v_sub (lv' := [(0, .ref (ad 68)), (1, .int x), (2, .int y), (3, .int x57), (4, .int 1)]) [0, 1, 2, 3, 4] rfl ?_
                exact ih6 _ x57 1 hJ71 (by have := hx57; have := (show (1 : Int32).toInt = 1 by decide); omega) (by have := hx57; have := (show (1 : Int32).toInt = 1 by decide); omega) (by have := hx57; have := (show (1 : Int32).toInt = 1 by decide); omega)
  exact LP1 100000 _ x 1 hJ (by have := (show (1 : Int32).toInt = 1 by decide); omega) (by have := (show (1 : Int32).toInt = 1 by decide); omega) (by have := (show (1 : Int32).toInt = 1 by decide); omega)

set_option maxRecDepth 20000 in
theorem t_X9_areOdds (l : Launch) (G : Gl) (ad : Nat → Nat) {n : Nat} {ic md : Nat → Int32} {bd : Nat → Int × Int} {E0 E : Nat → va_E} (hJ : JM G ad n ic md bd PR E0 E) (x : Int32) (y : Int32) : CtI l G yX9_areOdds cX9_areOdds 2 .boolean 2 42 (n) ad E [.int x, .int y] (fun r E' => ((r = 1 ∧ ((0 : Int) ≤ x.toInt ∧ x.toInt ≤ 59999999 ∧ 0 ≤ y.toInt ∧ y.toInt ≤ 59999999 ∧ x.toInt ≤ y.toInt ∧ y.toInt - x.toInt ≤ 2000000)) ∨ (r = 0 ∧ (0 : Int) ≤ 1)) ∧ E = E') := by
  refine CtI.of (by decide) (Nat.le_of_ble_eq_true rfl) (fun X A C => ?_)
  refine v_sub (lv' := [(0, .int x), (1, .int y)]) [0, 1] rfl ?_
  have hn := hJ.hn
  have hz16 := hJ.2.2.2.2
  refine v_iload_n C 0 dX9_areOdds_0 rfl rfl ?_
  refine v_cSp C dX9_areOdds_1 lX9_179 mX9_isMoment (t_X9_isMoment l G ad hJ x) ⟨by decide, by decide⟩ rfl (Nat.le_of_ble_eq_true rfl) ⟨Nat.zero_le _, Nat.zero_le _⟩ (fun r1 hp2 => ?_)
  rcases hp2 with ⟨rfl, hp2⟩ | ⟨rfl, hp2⟩
  · refine b_if_eq C 32 dX9_areOdds_4 (by decide) (show (1 : Int32).toInt = 1 by decide) (fun c3 => absurd c3 (by decide)) (fun c3 => ?_)
    refine v_iload_n C 1 dX9_areOdds_7 rfl rfl ?_
    refine v_cSp C dX9_areOdds_8 lX9_179 mX9_isMoment (t_X9_isMoment l G ad hJ y) ⟨by decide, by decide⟩ rfl (Nat.le_of_ble_eq_true rfl) ⟨Nat.zero_le _, Nat.zero_le _⟩ (fun r4 hp5 => ?_)
    rcases hp5 with ⟨rfl, hp5⟩ | ⟨rfl, hp5⟩
    · refine b_if_eq C 32 dX9_areOdds_11 (by decide) (show (1 : Int32).toInt = 1 by decide) (fun c6 => absurd c6 (by decide)) (fun c6 => ?_)
      refine v_iload_n C 0 dX9_areOdds_14 rfl rfl ?_
      refine v_iload_n C 1 dX9_areOdds_15 rfl rfl ?_
      refine b_icmp_gt C 32 dX9_areOdds_16 (by decide) (rfl : Int32.toInt x = _) (rfl : Int32.toInt y = _) (fun c7 => ?_) (fun c7 => ?_)
      · refine v_iconst (v := 0) C dX9_areOdds_32 (by decide) ?_
        exact v_ret C dX9_areOdds_33 rfl rfl ⟨Or.inr ⟨rfl, by omega⟩, rfl⟩
      · refine v_iload_n C 1 dX9_areOdds_19 rfl rfl ?_
        refine v_iload_n C 0 dX9_areOdds_20 rfl rfl ?_
        refine v_isub C dX9_areOdds_21 ?_
        refine v_top (fun x8 ex8 => ?_)
        have hx8 : x8.toInt = (y.toInt - x.toInt) := by rw [ex8]; exact ti_sub (rfl : Int32.toInt y = _) (rfl : Int32.toInt x = _) (by omega) (by omega)
        refine v_ldcw C dX9_areOdds_22 kX9_276 ?_
        refine b_icmp_gt C 32 dX9_areOdds_25 (by decide) hx8 (show (2000000 : Int32).toInt = 2000000 by decide) (fun c9 => ?_) (fun c9 => ?_)
        · refine v_iconst (v := 0) C dX9_areOdds_32 (by decide) ?_
          exact v_ret C dX9_areOdds_33 rfl rfl ⟨Or.inr ⟨rfl, by omega⟩, rfl⟩
        · refine v_iconst (v := 1) C dX9_areOdds_28 (by decide) ?_
          refine v_goto C 33 dX9_areOdds_29 (by decide) ?_
          exact v_ret C dX9_areOdds_33 rfl rfl ⟨Or.inl ⟨rfl, by omega⟩, rfl⟩
    · refine b_if_eq C 32 dX9_areOdds_11 (by decide) (show (0 : Int32).toInt = 0 by decide) (fun c10 => ?_) (fun c10 => absurd c10 (by decide))
      refine v_iconst (v := 0) C dX9_areOdds_32 (by decide) ?_
      exact v_ret C dX9_areOdds_33 rfl rfl ⟨Or.inr ⟨rfl, by omega⟩, rfl⟩
  · refine b_if_eq C 32 dX9_areOdds_4 (by decide) (show (0 : Int32).toInt = 0 by decide) (fun c11 => ?_) (fun c11 => absurd c11 (by decide))
    refine v_iconst (v := 0) C dX9_areOdds_32 (by decide) ?_
    exact v_ret C dX9_areOdds_33 rfl rfl ⟨Or.inr ⟨rfl, by omega⟩, rfl⟩

set_option maxRecDepth 20000 in
theorem t_X9_isRow (l : Launch) (G : Gl) (ad : Nat → Nat) {n : Nat} {ic md : Nat → Int32} {bd : Nat → Int × Int} {E0 E : Nat → va_E} (hJ : JM G ad n ic md bd PR E0 E) (x : Int32) (y : Int32) (z : Int32) (hz : (0 : Int) ≤ z.toInt ∧ z.toInt ≤ 2000000) : CtI l G yX9_isRow cX9_isRow 3 .boolean 2 42 (n) ad E [.int x, .int y, .int z] (fun r E' => ((r = 1 ∧ ((0 : Int) ≤ x.toInt ∧ x.toInt ≤ 59999999 ∧ 0 ≤ y.toInt ∧ y.toInt ≤ z.toInt ∧ x.toInt + y.toInt ≤ 59999999)) ∨ (r = 0 ∧ (0 : Int) ≤ 1)) ∧ E = E') := by
  refine CtI.of (by decide) (Nat.le_of_ble_eq_true rfl) (fun X A C => ?_)
  refine v_sub (lv' := [(0, .int x), (1, .int y), (2, .int z)]) [0, 1, 2] rfl ?_
  have hn := hJ.hn
  have hz16 := hJ.2.2.2.2
  refine v_iload_n C 0 dX9_isRow_0 rfl rfl ?_
  refine v_cSp C dX9_isRow_1 lX9_179 mX9_isMoment (t_X9_isMoment l G ad hJ x) ⟨by decide, by decide⟩ rfl (Nat.le_of_ble_eq_true rfl) ⟨Nat.zero_le _, Nat.zero_le _⟩ (fun r1 hp2 => ?_)
  rcases hp2 with ⟨rfl, hp2⟩ | ⟨rfl, hp2⟩
  · refine b_if_eq C 29 dX9_isRow_4 (by decide) (show (1 : Int32).toInt = 1 by decide) (fun c3 => absurd c3 (by decide)) (fun c3 => ?_)
    refine v_iload_n C 1 dX9_isRow_7 rfl rfl ?_
    refine v_iconst (v := 0) C dX9_isRow_8 (by decide) ?_
    refine v_iload_n C 2 dX9_isRow_9 rfl rfl ?_
    refine v_cSp C dX9_isRow_10 lX9_131 mX9_within (t_X9_within l G ad hJ y 0 z) ⟨by decide, by decide⟩ rfl (Nat.le_of_ble_eq_true rfl) ⟨Nat.zero_le _, Nat.zero_le _⟩ (fun r4 hp5 => ?_)
    have := (show (0 : Int32).toInt = 0 by decide)
    rcases hp5 with ⟨rfl, hp5⟩ | ⟨rfl, hp5⟩
    · refine b_if_eq C 29 dX9_isRow_13 (by decide) (show (1 : Int32).toInt = 1 by decide) (fun c6 => absurd c6 (by decide)) (fun c6 => ?_)
      refine v_iload_n C 0 dX9_isRow_16 rfl rfl ?_
      refine v_iload_n C 1 dX9_isRow_17 rfl rfl ?_
      refine v_iadd C dX9_isRow_18 ?_
      refine v_top (fun x7 ex7 => ?_)
      have hx7 : x7.toInt = (x.toInt + y.toInt) := by rw [ex7]; exact ti_add (rfl : Int32.toInt x = _) (rfl : Int32.toInt y = _) (by omega) (by omega)
      refine v_cSp C dX9_isRow_19 lX9_179 mX9_isMoment (t_X9_isMoment l G ad hJ x7) ⟨by decide, by decide⟩ rfl (Nat.le_of_ble_eq_true rfl) ⟨Nat.zero_le _, Nat.zero_le _⟩ (fun r8 hp9 => ?_)
      rcases hp9 with ⟨rfl, hp9⟩ | ⟨rfl, hp9⟩
      · refine b_if_eq C 29 dX9_isRow_22 (by decide) (show (1 : Int32).toInt = 1 by decide) (fun c10 => absurd c10 (by decide)) (fun c10 => ?_)
        refine v_iconst (v := 1) C dX9_isRow_25 (by decide) ?_
        refine v_goto C 30 dX9_isRow_26 (by decide) ?_
        exact v_ret C dX9_isRow_30 rfl rfl ⟨Or.inl ⟨rfl, by omega⟩, rfl⟩
      · refine b_if_eq C 29 dX9_isRow_22 (by decide) (show (0 : Int32).toInt = 0 by decide) (fun c11 => ?_) (fun c11 => absurd c11 (by decide))
        refine v_iconst (v := 0) C dX9_isRow_29 (by decide) ?_
        exact v_ret C dX9_isRow_30 rfl rfl ⟨Or.inr ⟨rfl, by omega⟩, rfl⟩
    · refine b_if_eq C 29 dX9_isRow_13 (by decide) (show (0 : Int32).toInt = 0 by decide) (fun c12 => ?_) (fun c12 => absurd c12 (by decide))
      refine v_iconst (v := 0) C dX9_isRow_29 (by decide) ?_
      exact v_ret C dX9_isRow_30 rfl rfl ⟨Or.inr ⟨rfl, by omega⟩, rfl⟩
  · refine b_if_eq C 29 dX9_isRow_4 (by decide) (show (0 : Int32).toInt = 0 by decide) (fun c13 => ?_) (fun c13 => absurd c13 (by decide))
    refine v_iconst (v := 0) C dX9_isRow_29 (by decide) ?_
    exact v_ret C dX9_isRow_30 rfl rfl ⟨Or.inr ⟨rfl, by omega⟩, rfl⟩

set_option maxRecDepth 20000 in
theorem t_X9_findOdds (l : Launch) (G : Gl) (ad : Nat → Nat) {n : Nat} {ic md : Nat → Int32} {bd : Nat → Int × Int} {E0 E : Nat → va_E} (hJ : JM G ad n ic md bd PR E0 E) (hf41 : ((0 : Int) ≤ (bd 41).1 ∧ (bd 41).2 ≤ 40000) ∧ ((bd 41).1 ≤ 0 ∧ 40000 ≤ (bd 41).2)) (x : Int32) (hx : (0 : Int) ≤ x.toInt ∧ x.toInt ≤ 59999999) (y : Int32) (hy : (0 : Int) ≤ y.toInt ∧ y.toInt ≤ 59999999) (hxy : (x.toInt ≤ y.toInt ∧ y.toInt - x.toInt ≤ 2000000)) : CtV l G yX9_findOdds cX9_findOdds 8 5 123 (n) ad E [.ref (ad 68), .int x, .int y] (fun E' => JM G ad n ic md bd PR E0 E') := by
  refine CtV.of (by decide) (Nat.le_of_ble_eq_true rfl) (fun X A C => ?_)
  refine v_sub (lv' := [(0, .ref (ad 68)), (1, .int x), (2, .int y)]) [0, 1, 2] rfl ?_
  have hn := hJ.hn
  have hz16 := hJ.2.2.2.2
  refine v_aload_n C 0 dX9_findOdds_0 rfl rfl ?_
  refine v_iconst (v := 0) C dX9_findOdds_1 (by decide) ?_
  obtain ⟨im1, hM1, hb1⟩ := hJ.1
  have hq1 := hM1.b
  refine v_puti C 68 dX9_findOdds_2 fX9_265 (by omega) hM1.2.2.1 rfl rfl rfl rfl (fun E2 hE2_68 oE2 => ?_)
  obtain ⟨hJ3, hM4, hb5⟩ := hJ.putN hM1 hb1 (k := 41) (v := (0 : Int32)) (by decide) (by unfold PR; omega) hE2_68 oE2
  have hlhJ3 : (0 : Int32).toInt = 0 := by decide
  refine v_aload_n C 0 dX9_findOdds_5 rfl rfl ?_
  refine v_iload_n C 1 dX9_findOdds_6 rfl rfl ?_
  refine v_iload_n C 1 dX9_findOdds_7 rfl rfl ?_
  refine v_iload_n C 2 dX9_findOdds_8 rfl rfl ?_
  refine v_cVv C dX9_findOdds_9 lX9_268 mX9_addOdd 68 (by omega) hE2_68 (by decide) rfl (t_X9_addOdd l G ad (show JM G ad n ic md (upB bd 41 (0, (0 : Int32).toInt)) PR E0 E2 from hJ3.toB (by decide) (by omega) (by omega)) (show (0 : Int) ≤ (0 : Int32).toInt ∧ (0 : Int32).toInt ≤ 39999 by omega) x x y) ⟨by decide, by decide⟩ rfl (Nat.le_of_ble_eq_true rfl) ⟨Nat.zero_le _, Nat.zero_le _⟩ (fun E6 hJ7 => ?_)
  refine v_aload_n C 0 dX9_findOdds_12 rfl rfl ?_
  refine v_iload_n C 2 dX9_findOdds_13 rfl rfl ?_
  refine v_iload_n C 1 dX9_findOdds_14 rfl rfl ?_
  refine v_iload_n C 2 dX9_findOdds_15 rfl rfl ?_
  obtain ⟨im10, hM10, hb10⟩ := hJ7.1
  have hq10 := hM10.b
  refine v_cVv C dX9_findOdds_16 lX9_268 mX9_addOdd 68 (by omega) hM10.2.2.1 (by decide) rfl (t_X9_addOdd l G ad (show JM G ad n ic md (upB bd 41 (0, (0 : Int32).toInt + 1)) PR E0 E6 from hJ7.toB (by decide) (by omega) (by omega)) (show (0 : Int) ≤ (0 : Int32).toInt + 1 ∧ (0 : Int32).toInt + 1 ≤ 39999 by omega) y x y) ⟨by decide, by decide⟩ rfl (Nat.le_of_ble_eq_true rfl) ⟨Nat.zero_le _, Nat.zero_le _⟩ (fun E8 hJ9 => ?_)
  refine v_iconst (v := 0) C dX9_findOdds_19 (by decide) ?_
  refine v_istore_n (lv' := [(0, .ref (ad 68)), (1, .int x), (2, .int y), (3, .int 0)]) C [1, 2, 3, 0] dX9_findOdds_20 rfl (by decide) rfl ?_
  have LP11 : ∀ (t : Nat) (E13 : Nat → va_E) (y12 : Int32), JM G ad n ic md (upB bd 41 (0, 2 + 5188 * y12.toInt)) PR E0 E13 → ((0 : Int) ≤ y12.toInt ∧ y12.toInt ≤ 5) → 6 - y12.toInt < (t : Int) → V X G A 8 (QV X G A (n) ad (fun E' => JM G ad n ic md bd PR E0 E')) n ad 0 0 E13 21 [(0, .ref (ad 68)), (1, .int x), (2, .int y), (3, .int y12)] [] := by
    intro t17
    induction t17 with
    | zero => intro E13 y12 hJ14 hy12 hm16; exfalso; omega
    | succ t17 ih15 =>
      intro E13 y12 hJ14 hy12 hm16
      refine v_iload_n C 3 dX9_findOdds_21 rfl rfl ?_
      refine v_aload_n C 0 dX9_findOdds_22 rfl rfl ?_
      obtain ⟨im18, hM18, hb18⟩ := hJ14.1
      have hq18 := hM18.b
      refine v_geti (v := im18 16) C 68 dX9_findOdds_23 fX9_135 (by omega) hM18.2.2.1 rfl rfl ?_
      have him18_16r : (bd 16).1 ≤ (im18 16).toInt ∧ (im18 16).toInt ≤ (bd 16).2 := hb18 16
      have him18_16 : (0 : Int) ≤ (im18 16).toInt ∧ (im18 16).toInt ≤ 5 := by omega
      refine b_icmp_ge C 204 dX9_findOdds_26 (by decide) (rfl : Int32.toInt y12 = _) (rfl : Int32.toInt (im18 16) = _) (fun c19 => ?_) (fun c19 => ?_)
      · refine v_aload_n C 0 dX9_findOdds_204 rfl rfl ?_
        refine v_geti (v := im18 41) C 68 dX9_findOdds_205 fX9_265 (by omega) hM18.2.2.1 rfl rfl ?_
        have him18_41 : (0 : Int) ≤ (im18 41).toInt ∧ (im18 41).toInt ≤ 2 + 5188 * y12.toInt := hb18 41
        refine v_iconst (v := 2) C dX9_findOdds_208 (by decide) ?_
        refine v_idiv C dX9_findOdds_209 (by decide) ?_
        refine v_top (fun x20 ex20 => ?_)
        have hx20 : x20.toInt = ((im18 41).toInt / 2) := by rw [ex20]; exact ti_div (rfl : Int32.toInt (im18 41) = _) (show (2 : Int32).toInt = 2 by decide) (by omega) (by omega)
        refine v_istore_n (lv' := [(0, .ref (ad 68)), (1, .int x), (2, .int y), (3, .int x20)]) C [1, 2, 3, 0] dX9_findOdds_210 rfl (by decide) rfl ?_
        have LP21 : ∀ (t : Nat) (E23 : Nat → va_E) (y22 : Int32), JM G ad n ic md (upB bd 41 (0, 25942)) PR E0 E23 → ((-1 : Int) ≤ y22.toInt ∧ y22.toInt ≤ 20000) → y22.toInt + 1 < (t : Int) → V X G A 8 (QV X G A (n) ad (fun E' => JM G ad n ic md bd PR E0 E')) n ad 0 0 E23 211 [(0, .ref (ad 68)), (3, .int y22)] [] := by
          intro t27
          induction t27 with
          | zero => intro E23 y22 hJ24 hy22 hm26; exfalso; omega
          | succ t27 ih25 =>
            intro E23 y22 hJ24 hy22 hm26
            refine v_iload_n C 1 dX9_findOdds_211 rfl rfl ?_
            refine b_if_lt C 230 dX9_findOdds_212 (by decide) (rfl : Int32.toInt y22 = _) (fun c28 => ?_) (fun c28 => ?_)
            · refine v_aload_n C 0 dX9_findOdds_230 rfl rfl ?_
              obtain ⟨im29, hM29, hb29⟩ := hJ24.1
              have hq29 := hM29.b
              refine v_geti (v := im29 41) C 68 dX9_findOdds_231 fX9_265 (by omega) hM29.2.2.1 rfl rfl ?_
              have him29_41 : (0 : Int) ≤ (im29 41).toInt ∧ (im29 41).toInt ≤ 25942 := hb29 41
              refine v_iconst (v := 1) C dX9_findOdds_234 (by decide) ?_
              refine v_isub C dX9_findOdds_235 ?_
              refine v_top (fun x30 ex30 => ?_)
              have hx30 : x30.toInt = ((im29 41).toInt - 1) := by rw [ex30]; exact ti_sub (rfl : Int32.toInt (im29 41) = _) (show (1 : Int32).toInt = 1 by decide) (by omega) (by omega)
              refine v_istore_n (lv' := [(0, .ref (ad 68)), (3, .int x30)]) C [1, 0] dX9_findOdds_236 rfl (by decide) rfl ?_
              have LP31 : ∀ (t : Nat) (E33 : Nat → va_E) (y32 : Int32), JM G ad n ic md (upB bd 41 (0, 25942)) PR E0 E33 → ((-1 : Int) ≤ y32.toInt ∧ y32.toInt ≤ 39999) → y32.toInt + 1 < (t : Int) → V X G A 8 (QV X G A (n) ad (fun E' => JM G ad n ic md bd PR E0 E')) n ad 0 0 E33 237 [(0, .ref (ad 68)), (3, .int y32)] [] := by
                intro t37
                induction t37 with
                | zero => intro E33 y32 hJ34 hy32 hm36; exfalso; omega
                | succ t37 ih35 =>
                  intro E33 y32 hJ34 hy32 hm36
                  refine v_iload_n C 1 dX9_findOdds_237 rfl rfl ?_
                  refine b_if_le C 281 dX9_findOdds_238 (by decide) (rfl : Int32.toInt y32 = _) (fun c38 => ?_) (fun c38 => ?_)
                  · refine v_iconst (v := 0) C dX9_findOdds_281 (by decide) ?_
                    refine v_istore_n (lv' := [(0, .ref (ad 68)), (3, .int 0)]) C [1, 0] dX9_findOdds_282 rfl (by decide) rfl ?_
                    refine v_iconst (v := 0) C dX9_findOdds_283 (by decide) ?_
                    refine v_istore (lv' := [(0, .ref (ad 68)), (3, .int 0), (4, .int 0)]) C [1, 2, 0] dX9_findOdds_284 (by decide) rfl ?_
                    have LP39 : ∀ (t : Nat) (E43 : Nat → va_E) (y40 : Int32) (y41 : Int32), JM G ad n ic md (upB bd 41 (0, 25942)) PR E0 E43 → ((0 : Int) ≤ y40.toInt ∧ y40.toInt ≤ 40000) → ((0 : Int) ≤ y41.toInt ∧ y41.toInt ≤ 40000) → (y40.toInt ≤ y41.toInt) → 40001 - y41.toInt < (t : Int) → V X G A 8 (QV X G A (n) ad (fun E' => JM G ad n ic md bd PR E0 E')) n ad 0 0 E43 286 [(0, .ref (ad 68)), (3, .int y40), (4, .int y41)] [] := by
                      intro t47
                      induction t47 with
                      | zero => intro E43 y40 y41 hJ44 hy40 hy41 hq42 hm46; exfalso; omega
                      | succ t47 ih45 =>
                        intro E43 y40 y41 hJ44 hy40 hy41 hq42 hm46
                        refine v_iload C 2 dX9_findOdds_286 rfl ?_
                        refine v_aload_n C 0 dX9_findOdds_288 rfl rfl ?_
                        obtain ⟨im48, hM48, hb48⟩ := hJ44.1
                        have hq48 := hM48.b
                        refine v_geti (v := im48 41) C 68 dX9_findOdds_289 fX9_265 (by omega) hM48.2.2.1 rfl rfl ?_
                        have him48_41 : (0 : Int) ≤ (im48 41).toInt ∧ (im48 41).toInt ≤ 25942 := hb48 41
                        refine b_icmp_ge C 339 dX9_findOdds_292 (by decide) (rfl : Int32.toInt y41 = _) (rfl : Int32.toInt (im48 41) = _) (fun c49 => ?_) (fun c49 => ?_)
                        · refine v_aload_n C 0 dX9_findOdds_339 rfl rfl ?_
                          refine v_iload_n C 1 dX9_findOdds_340 rfl rfl ?_
                          refine v_puti C 68 dX9_findOdds_341 fX9_265 (by omega) hM48.2.2.1 rfl rfl rfl rfl (fun E50 hE50_68 oE50 => ?_)
                          obtain ⟨hJ51, hM52, hb53⟩ := hJ44.putB hM48 hb48 (k := 41) (v := y40) (by decide) (by unfold PR; omega) hE50_68 oE50
                          exact v_vret C dX9_findOdds_344 rfl (hJ51.outB (k := 41) (by decide) (show (bd 41).1 ≤ y40.toInt by omega) (show y40.toInt ≤ (bd 41).2 by omega))
                        · refine v_iload_n C 1 dX9_findOdds_295 rfl rfl ?_
                          refine b_if_eq C 317 dX9_findOdds_296 (by decide) (rfl : Int32.toInt y40 = _) (fun c54 => ?_) (fun c54 => ?_)
                          · refine v_aload_n C 0 dX9_findOdds_317 rfl rfl ?_
                            refine v_getr C 68 dX9_findOdds_318 fX9_113 (by omega) hM48.2.2.1 rfl rfl ?_
                            refine v_iload_n C 1 dX9_findOdds_321 rfl rfl ?_
                            refine v_aload_n C 0 dX9_findOdds_322 rfl rfl ?_
                            refine v_getr C 68 dX9_findOdds_323 fX9_113 (by omega) hM48.2.2.1 rfl rfl ?_
                            refine v_iload C 2 dX9_findOdds_326 rfl ?_
                            obtain ⟨f56, hE56, hb56⟩ := hJ44.2.1.getA (b := 97) (by omega) rfl
                            refine v_ald (v := f56 (y41.toInt).toNat) C 97 dX9_findOdds_328 (by omega) hE56 (ti_in (rfl : Int32.toInt y41 = _) (by omega) (by omega)) (by rw [ti_cl (rfl : Int32.toInt y41 = _)]) ?_
                            refine v_top (fun x57 _ => ?_)
                            refine v_ast C 97 dX9_findOdds_329 (by omega) hE56 (ti_in (rfl : Int32.toInt y40 = _) (by omega) (by omega)) (fun E58 hE58_97 oE58 => ?_)
                            rw [ti_cl (rfl : Int32.toInt y40 = _)] at hE58_97
                            have hE58_68 := (oE58 68 (by decide)).trans hM48.2.2.1
                            have hJ59 := hJ44.with (hJ44.2.1.setA rfl (by unfold PR; omega) hb56 (ti_any x57) hE58_97 oE58) (oE58 68 (by decide)) (oE58 69 (by decide)) (oE58 70 (by decide))
                            have hM60 := hM48.of (oE58 68 (by decide)) (oE58 69 (by decide)) (oE58 70 (by decide))
                            obtain ⟨x61, ex61⟩ : ∃ y : Int32, y = y40 + 1 := ⟨_, rfl⟩
                            have hx61 : x61.toInt = (y40.toInt + 1) := by rw [ex61]; exact ti_add (rfl : Int32.toInt y40 = _) (show (1 : Int32).toInt = 1 by decide) (by omega) (by omega)
                            refine v_iinc (v := x61) (lv' := [(0, .ref (ad 68)), (3, .int x61), (4, .int y41)]) C 1 [1, 0, 2] dX9_findOdds_330 rfl (ex61.symm) (by decide) rfl ?_
                            obtain ⟨x62, ex62⟩ : ∃ y : Int32, y = y41 + 1 := ⟨_, rfl⟩
                            have hx62 : x62.toInt = (y41.toInt + 1) := by rw [ex62]; exact ti_add (rfl : Int32.toInt y41 = _) (show (1 : Int32).toInt = 1 by decide) (by omega) (by omega)
                            refine v_iinc (v := x62) (lv' := [(0, .ref (ad 68)), (3, .int x61), (4, .int x62)]) C 2 [1, 2, 0] dX9_findOdds_333 rfl (ex62.symm) (by decide) rfl ?_
                            refine v_goto C 286 dX9_findOdds_336 (by decide) ?_
                            exact ih45 _ x61 x62 (hJ59.toB (by decide) (by have := hx61; have := hx62; omega) (by have := hx61; have := hx62; omega)) (by have := hx61; have := hx62; omega) (by have := hx61; have := hx62; omega) (by have := hx61; have := hx62; omega) (by have := hx61; have := hx62; omega)
                          · refine v_aload_n C 0 dX9_findOdds_299 rfl rfl ?_
                            refine v_getr C 68 dX9_findOdds_300 fX9_113 (by omega) hM48.2.2.1 rfl rfl ?_
                            refine v_iload C 2 dX9_findOdds_303 rfl ?_
                            obtain ⟨f64, hE64, hb64⟩ := hJ44.2.1.getA (b := 97) (by omega) rfl
                            refine v_ald (v := f64 (y41.toInt).toNat) C 97 dX9_findOdds_305 (by omega) hE64 (ti_in (rfl : Int32.toInt y41 = _) (by omega) (by omega)) (by rw [ti_cl (rfl : Int32.toInt y41 = _)]) ?_
                            refine v_top (fun x65 _ => ?_)
                            refine v_aload_n C 0 dX9_findOdds_306 rfl rfl ?_
                            refine v_getr C 68 dX9_findOdds_307 fX9_113 (by omega) hM48.2.2.1 rfl rfl ?_
                            refine v_iload_n C 1 dX9_findOdds_310 rfl rfl ?_
                            refine v_iconst (v := 1) C dX9_findOdds_311 (by decide) ?_
                            refine v_isub C dX9_findOdds_312 ?_
                            refine v_top (fun x66 ex66 => ?_)
                            have hx66 : x66.toInt = (y40.toInt - 1) := by rw [ex66]; exact ti_sub (rfl : Int32.toInt y40 = _) (show (1 : Int32).toInt = 1 by decide) (by omega) (by omega)
                            refine v_ald (v := f64 ((y40.toInt - 1)).toNat) C 97 dX9_findOdds_313 (by omega) hE64 (ti_in hx66 (by omega) (by omega)) (by rw [ti_cl hx66]) ?_
                            refine v_top (fun x67 _ => ?_)
                            refine b_icmp_eq C 333 dX9_findOdds_314 (by decide) (rfl : Int32.toInt x65 = _) (rfl : Int32.toInt x67 = _) (fun c68 => ?_) (fun c68 => ?_)
                            · obtain ⟨x69, ex69⟩ : ∃ y : Int32, y = y41 + 1 := ⟨_, rfl⟩
                              have hx69 : x69.toInt = (y41.toInt + 1) := by rw [ex69]; exact ti_add (rfl : Int32.toInt y41 = _) (show (1 : Int32).toInt = 1 by decide) (by omega) (by omega)
                              refine v_iinc (v := x69) (lv' := [(0, .ref (ad 68)), (3, .int y40), (4, .int x69)]) C 2 [1, 2, 0] dX9_findOdds_333 rfl (ex69.symm) (by decide) rfl ?_
                              refine v_goto C 286 dX9_findOdds_336 (by decide) ?_
                              exact ih45 _ y40 x69 (hJ44.toB (by decide) (by have := hx69; omega) (by have := hx69; omega)) (by have := hx69; omega) (by have := hx69; omega) (by have := hx69; omega) (by have := hx69; omega)
                            · refine v_aload_n C 0 dX9_findOdds_317 rfl rfl ?_
                              refine v_getr C 68 dX9_findOdds_318 fX9_113 (by omega) hM48.2.2.1 rfl rfl ?_
                              refine v_iload_n C 1 dX9_findOdds_321 rfl rfl ?_
                              refine v_aload_n C 0 dX9_findOdds_322 rfl rfl ?_
                              refine v_getr C 68 dX9_findOdds_323 fX9_113 (by omega) hM48.2.2.1 rfl rfl ?_
                              refine v_iload C 2 dX9_findOdds_326 rfl ?_
                              refine v_ald (v := f64 (y41.toInt).toNat) C 97 dX9_findOdds_328 (by omega) hE64 (ti_in (rfl : Int32.toInt y41 = _) (by omega) (by omega)) (by rw [ti_cl (rfl : Int32.toInt y41 = _)]) ?_
                              refine v_top (fun x70 _ => ?_)
                              refine v_ast C 97 dX9_findOdds_329 (by omega) hE64 (ti_in (rfl : Int32.toInt y40 = _) (by omega) (by omega)) (fun E71 hE71_97 oE71 => ?_)
                              rw [ti_cl (rfl : Int32.toInt y40 = _)] at hE71_97
                              have hE71_68 := (oE71 68 (by decide)).trans hM48.2.2.1
                              have hJ72 := hJ44.with (hJ44.2.1.setA rfl (by unfold PR; omega) hb64 (ti_any x70) hE71_97 oE71) (oE71 68 (by decide)) (oE71 69 (by decide)) (oE71 70 (by decide))
                              have hM73 := hM48.of (oE71 68 (by decide)) (oE71 69 (by decide)) (oE71 70 (by decide))
                              obtain ⟨x74, ex74⟩ : ∃ y : Int32, y = y40 + 1 := ⟨_, rfl⟩
                              have hx74 : x74.toInt = (y40.toInt + 1) := by rw [ex74]; exact ti_add (rfl : Int32.toInt y40 = _) (show (1 : Int32).toInt = 1 by decide) (by omega) (by omega)
                              refine v_iinc (v := x74) (lv' := [(0, .ref (ad 68)), (3, .int x74), (4, .int y41)]) C 1 [1, 0, 2] dX9_findOdds_330 rfl (ex74.symm) (by decide) rfl ?_
                              obtain ⟨x75, ex75⟩ : ∃ y : Int32, y = y41 + 1 := ⟨_, rfl⟩
                              have hx75 : x75.toInt = (y41.toInt + 1) := by rw [ex75]; exact ti_add (rfl : Int32.toInt y41 = _) (show (1 : Int32).toInt = 1 by decide) (by omega) (by omega)
                              refine v_iinc (v := x75) (lv' := [(0, .ref (ad 68)), (3, .int x74), (4, .int x75)]) C 2 [1, 2, 0] dX9_findOdds_333 rfl (ex75.symm) (by decide) rfl ?_
                              refine v_goto C 286 dX9_findOdds_336 (by decide) ?_
                              exact ih45 _ x74 x75 (hJ72.toB (by decide) (by have := hx74; have := hx75; omega) (by have := hx74; have := hx75; omega)) (by have := hx74; have := hx75; omega) (by have := hx74; have := hx75; omega) (by have := hx74; have := hx75; omega) (by have := hx74; have := hx75; omega)
                    exact LP39 100000 _ 0 0 (hJ34.toB (by decide) (by have := (show (0 : Int32).toInt = 0 by decide); omega) (by have := (show (0 : Int32).toInt = 0 by decide); omega)) (by have := (show (0 : Int32).toInt = 0 by decide); omega) (by have := (show (0 : Int32).toInt = 0 by decide); omega) (by have := (show (0 : Int32).toInt = 0 by decide); omega) (by have := (show (0 : Int32).toInt = 0 by decide); omega)
                  · refine v_aload_n C 0 dX9_findOdds_241 rfl rfl ?_
                    obtain ⟨im76, hM76, hb76⟩ := hJ34.1
                    have hq76 := hM76.b
                    refine v_getr C 68 dX9_findOdds_242 fX9_113 (by omega) hM76.2.2.1 rfl rfl ?_
                    refine v_iconst (v := 0) C dX9_findOdds_245 (by decide) ?_
                    obtain ⟨f78, hE78, hb78⟩ := hJ34.2.1.getA (b := 97) (by omega) rfl
                    refine v_ald (v := f78 0) C 97 dX9_findOdds_246 (by omega) hE78 (ti_in (show (0 : Int32).toInt = 0 by decide) (by omega) (by omega)) (congrArg f78 (by decide)) ?_
                    refine v_top (fun x79 _ => ?_)
                    refine v_istore (lv' := [(0, .ref (ad 68)), (3, .int y32), (4, .int x79)]) C [1, 2, 0] dX9_findOdds_247 (by decide) rfl ?_
                    refine v_aload_n C 0 dX9_findOdds_249 rfl rfl ?_
                    refine v_getr C 68 dX9_findOdds_250 fX9_113 (by omega) hM76.2.2.1 rfl rfl ?_
                    refine v_iconst (v := 0) C dX9_findOdds_253 (by decide) ?_
                    refine v_aload_n C 0 dX9_findOdds_254 rfl rfl ?_
                    refine v_getr C 68 dX9_findOdds_255 fX9_113 (by omega) hM76.2.2.1 rfl rfl ?_
                    refine v_iload_n C 1 dX9_findOdds_258 rfl rfl ?_
                    refine v_ald (v := f78 (y32.toInt).toNat) C 97 dX9_findOdds_259 (by omega) hE78 (ti_in (rfl : Int32.toInt y32 = _) (by omega) (by omega)) (by rw [ti_cl (rfl : Int32.toInt y32 = _)]) ?_
                    refine v_top (fun x80 _ => ?_)
                    refine v_ast C 97 dX9_findOdds_260 (by omega) hE78 (ti_in (show (0 : Int32).toInt = 0 by decide) (by omega) (by omega)) (fun E81 hE81_97 oE81 => ?_)
                    rw [ti_cl (show (0 : Int32).toInt = 0 by decide), show Int.toNat 0 = 0 by omega] at hE81_97
                    have hE81_68 := (oE81 68 (by decide)).trans hM76.2.2.1
                    have hJ82 := hJ34.with (hJ34.2.1.setA rfl (by unfold PR; omega) hb78 (ti_any x80) hE81_97 oE81) (oE81 68 (by decide)) (oE81 69 (by decide)) (oE81 70 (by decide))
                    have hM83 := hM76.of (oE81 68 (by decide)) (oE81 69 (by decide)) (oE81 70 (by decide))
                    refine v_aload_n C 0 dX9_findOdds_261 rfl rfl ?_
                    refine v_getr C 68 dX9_findOdds_262 fX9_113 (by omega) hM83.2.2.1 rfl rfl ?_
                    refine v_iload_n C 1 dX9_findOdds_265 rfl rfl ?_
                    refine v_iload C 2 dX9_findOdds_266 rfl ?_
                    obtain ⟨f85, hE85, hb85⟩ := hJ82.2.1.getA (b := 97) (by omega) rfl
                    refine v_ast C 97 dX9_findOdds_268 (by omega) hE85 (ti_in (rfl : Int32.toInt y32 = _) (by omega) (by omega)) (fun E86 hE86_97 oE86 => ?_)
                    rw [ti_cl (rfl : Int32.toInt y32 = _)] at hE86_97
                    have hE86_68 := (oE86 68 (by decide)).trans hM83.2.2.1
                    have hJ87 := hJ82.with (hJ82.2.1.setA rfl (by unfold PR; omega) hb85 (ti_any x79) hE86_97 oE86) (oE86 68 (by decide)) (oE86 69 (by decide)) (oE86 70 (by decide))
                    have hM88 := hM83.of (oE86 68 (by decide)) (oE86 69 (by decide)) (oE86 70 (by decide))
                    refine v_aload_n C 0 dX9_findOdds_269 rfl rfl ?_
                    refine v_iconst (v := 0) C dX9_findOdds_270 (by decide) ?_
                    refine v_iload_n C 1 dX9_findOdds_271 rfl rfl ?_
                    refine v_cVv C dX9_findOdds_272 lX9_272 mX9_sink 68 (by omega) hM88.2.2.1 (by decide) rfl (t_X9_sink l G ad hJ87 0 (show (0 : Int) ≤ Int32.toInt 0 ∧ Int32.toInt 0 ≤ 40000 by decide) y32 (show (0 : Int) ≤ Int32.toInt y32 ∧ Int32.toInt y32 ≤ 40000 by omega)) ⟨by decide, by decide⟩ rfl (Nat.le_of_ble_eq_true rfl) ⟨Nat.zero_le _, Nat.zero_le _⟩ (fun E90 hJ92 => ?_)
                    obtain ⟨x93, ex93⟩ : ∃ y : Int32, y = y32 + (-1) := ⟨_, rfl⟩
                    have hx93 : x93.toInt = (y32.toInt + (-1)) := by rw [ex93]; exact ti_add (rfl : Int32.toInt y32 = _) (show ((-1) : Int32).toInt = (-1) by decide) (by omega) (by omega)
                    refine v_iinc (v := x93) (lv' := [(0, .ref (ad 68)), (3, .int x93), (4, .int x79)]) C 1 [1, 0, 2] dX9_findOdds_275 rfl (ex93.symm) (by decide) rfl ?_
                    refine v_goto C 237 dX9_findOdds_278 (by decide) ?_
                    refine v_sub (lv' := [(0, .ref (ad 68)), (3, .int x93)]) [0, 1] rfl ?_
                    exact ih35 _ x93 (hJ92.toB (by decide) (by have := hx93; omega) (by have := hx93; omega)) (by have := hx93; omega) (by have := hx93; omega)
              exact LP31 100000 _ x30 (hJ24.toB (by decide) (by have := hx30; omega) (by have := hx30; omega)) (by have := hx30; omega) (by have := hx30; omega)
            · refine v_aload_n C 0 dX9_findOdds_215 rfl rfl ?_
              refine v_iload_n C 1 dX9_findOdds_216 rfl rfl ?_
              refine v_aload_n C 0 dX9_findOdds_217 rfl rfl ?_
              obtain ⟨im94, hM94, hb94⟩ := hJ24.1
              have hq94 := hM94.b
              refine v_geti (v := im94 41) C 68 dX9_findOdds_218 fX9_265 (by omega) hM94.2.2.1 rfl rfl ?_
              have him94_41 : (0 : Int) ≤ (im94 41).toInt ∧ (im94 41).toInt ≤ 25942 := hb94 41
              refine v_cVv C dX9_findOdds_221 lX9_272 mX9_sink 68 (by omega) hM94.2.2.1 (by decide) rfl (t_X9_sink l G ad hJ24 y22 (show (0 : Int) ≤ Int32.toInt y22 ∧ Int32.toInt y22 ≤ 40000 by omega) (im94 41) (show (0 : Int) ≤ Int32.toInt (im94 41) ∧ Int32.toInt (im94 41) ≤ 40000 by omega)) ⟨by decide, by decide⟩ rfl (Nat.le_of_ble_eq_true rfl) ⟨Nat.zero_le _, Nat.zero_le _⟩ (fun E96 hJ98 => ?_)
              obtain ⟨x99, ex99⟩ : ∃ y : Int32, y = y22 + (-1) := ⟨_, rfl⟩
              have hx99 : x99.toInt = (y22.toInt + (-1)) := by rw [ex99]; exact ti_add (rfl : Int32.toInt y22 = _) (show ((-1) : Int32).toInt = (-1) by decide) (by omega) (by omega)
              refine v_iinc (v := x99) (lv' := [(0, .ref (ad 68)), (3, .int x99)]) C 1 [1, 0] dX9_findOdds_224 rfl (ex99.symm) (by decide) rfl ?_
              refine v_goto C 211 dX9_findOdds_227 (by decide) ?_
              exact ih25 _ x99 (hJ98.toB (by decide) (by have := hx99; omega) (by have := hx99; omega)) (by have := hx99; omega) (by have := hx99; omega)
        refine v_sub (lv' := [(0, .ref (ad 68)), (3, .int x20)]) [0, 3] rfl ?_
        exact LP21 100000 _ x20 (hJ14.toB (by decide) (by have := hx20; omega) (by have := hx20; omega)) (by have := hx20; omega) (by have := hx20; omega)
      · refine v_aload_n C 0 dX9_findOdds_29 rfl rfl ?_
        refine v_iload_n C 3 dX9_findOdds_30 rfl rfl ?_
        refine v_cVv C dX9_findOdds_31 lX9_171 mX9_find 68 (by omega) hM18.2.2.1 (by decide) rfl (t_X9_find l G ad hJ14 y12 (show (0 : Int) ≤ Int32.toInt y12 ∧ Int32.toInt y12 ≤ 4 by omega)) ⟨by decide, by decide⟩ rfl (Nat.le_of_ble_eq_true rfl) ⟨Nat.zero_le _, Nat.zero_le _⟩ (fun E101 hJ103 => ?_)
        refine v_iconst (v := 1) C dX9_findOdds_34 (by decide) ?_
        refine v_istore (lv' := [(0, .ref (ad 68)), (1, .int x), (2, .int y), (3, .int y12), (4, .int 1)]) C [1, 2, 3, 4, 0] dX9_findOdds_35 (by decide) rfl ?_
        have LP104 : ∀ (t : Nat) (E106 : Nat → va_E) (y105 : Int32), JM G ad n ic md (upB bd 41 (0, 2 + 5188 * y12.toInt + 3 * (y105.toInt - 1))) PR E0 E106 → ((1 : Int) ≤ y105.toInt ∧ y105.toInt ≤ 801) → 802 - y105.toInt < (t : Int) → V X G A 8 (QV X G A (n) ad (fun E' => JM G ad n ic md bd PR E0 E')) n ad 0 0 E106 37 [(0, .ref (ad 68)), (1, .int x), (2, .int y), (3, .int y12), (4, .int y105)] [] := by
          intro t110
          induction t110 with
          | zero => intro E106 y105 hJ107 hy105 hm109; exfalso; omega
          | succ t110 ih108 =>
            intro E106 y105 hJ107 hy105 hm109
            refine v_iload C 4 dX9_findOdds_37 rfl ?_
            refine v_aload_n C 0 dX9_findOdds_39 rfl rfl ?_
            obtain ⟨im111, hM111, hb111⟩ := hJ107.1
            have hq111 := hM111.b
            refine v_getr C 68 dX9_findOdds_40 fX9_67 (by omega) hM111.2.2.1 rfl rfl ?_
            refine v_iload_n C 3 dX9_findOdds_43 rfl rfl ?_
            obtain ⟨f113, hE113, hb113⟩ := hJ107.2.1.getA (b := 82) (by omega) rfl
            refine v_ald (v := f113 (y12.toInt).toNat) C 82 dX9_findOdds_44 (by omega) hE113 (ti_in (rfl : Int32.toInt y12 = _) (by omega) (by omega)) (by rw [ti_cl (rfl : Int32.toInt y12 = _)]) ?_
            refine v_top (fun x114 ex114 => ?_)
            have hx114 : (0 : Int) ≤ x114.toInt ∧ x114.toInt ≤ 800 := by rw [ex114]; exact hb113 _
            refine b_icmp_gt C 97 dX9_findOdds_45 (by decide) (rfl : Int32.toInt y105 = _) (rfl : Int32.toInt x114 = _) (fun c115 => ?_) (fun c115 => ?_)
            · refine v_iload_n C 1 dX9_findOdds_97 rfl rfl ?_
              refine v_sipush (v := 1440) C dX9_findOdds_98 (by decide) ?_
              refine v_idiv C dX9_findOdds_101 (by decide) ?_
              refine v_top (fun x116 ex116 => ?_)
              have hx116 : x116.toInt = (x.toInt / 1440) := by rw [ex116]; exact ti_div (rfl : Int32.toInt x = _) (show (1440 : Int32).toInt = 1440 by decide) (by omega) (by omega)
              refine v_iconst (v := 2) C dX9_findOdds_102 (by decide) ?_
              refine v_isub C dX9_findOdds_103 ?_
              refine v_top (fun x117 ex117 => ?_)
              have hx117 : x117.toInt = ((x.toInt / 1440) - 2) := by rw [ex117]; exact ti_sub hx116 (show (2 : Int32).toInt = 2 by decide) (by omega) (by omega)
              refine v_istore (lv' := [(0, .ref (ad 68)), (1, .int x), (2, .int y), (3, .int y12), (4, .int x117)]) C [1, 2, 3, 4, 0] dX9_findOdds_104 (by decide) rfl ?_
              refine v_iload_n C 2 dX9_findOdds_106 rfl rfl ?_
              refine v_sipush (v := 1440) C dX9_findOdds_107 (by decide) ?_
              refine v_idiv C dX9_findOdds_110 (by decide) ?_
              refine v_top (fun x118 ex118 => ?_)
              have hx118 : x118.toInt = (y.toInt / 1440) := by rw [ex118]; exact ti_div (rfl : Int32.toInt y = _) (show (1440 : Int32).toInt = 1440 by decide) (by omega) (by omega)
              refine v_iconst (v := 2) C dX9_findOdds_111 (by decide) ?_
              refine v_iadd C dX9_findOdds_112 ?_
              refine v_top (fun x119 ex119 => ?_)
              have hx119 : x119.toInt = ((y.toInt / 1440) + 2) := by rw [ex119]; exact ti_add hx118 (show (2 : Int32).toInt = 2 by decide) (by omega) (by omega)
              refine v_istore (lv' := [(0, .ref (ad 68)), (1, .int x), (2, .int y), (3, .int y12), (4, .int x117), (5, .int x119)]) C [1, 2, 3, 4, 5, 0] dX9_findOdds_113 (by decide) rfl ?_
              refine v_iload C 4 dX9_findOdds_115 rfl ?_
              refine b_if_ge C 124 dX9_findOdds_117 (by decide) hx117 (fun c120 => ?_) (fun c120 => ?_)
              · refine v_iload C 4 dX9_findOdds_124 rfl ?_
                refine v_istore (lv' := [(0, .ref (ad 68)), (1, .int x), (2, .int y), (3, .int y12), (4, .int x117), (5, .int x119), (6, .int x117)]) C [1, 2, 3, 4, 5, 6, 0] dX9_findOdds_126 (by decide) rfl ?_
                have LP121 : ∀ (t : Nat) (E125 : Nat → va_E) (y122 : Int32), JM G ad n ic md (upB bd 41 (0, 2402 + 5188 * y12.toInt + 2 * (y122.toInt - (x.toInt / 1440 - 2)))) PR E0 E125 → ((0 : Int) ≤ y122.toInt ∧ y122.toInt ≤ 41669) → (x.toInt / 1440 - 2 ≤ y122.toInt) → (y122.toInt ≤ y.toInt / 1440 + 3) → 41670 - y122.toInt < (t : Int) → V X G A 8 (QV X G A (n) ad (fun E' => JM G ad n ic md bd PR E0 E')) n ad 0 0 E125 128 [(0, .ref (ad 68)), (1, .int x), (2, .int y), (3, .int y12), (5, .int x119), (6, .int y122)] [] := by
                  intro t129
                  induction t129 with
                  | zero => intro E125 y122 hJ126 hy122 hq123 hq124 hm128; exfalso; omega
                  | succ t129 ih127 =>
                    intro E125 y122 hJ126 hy122 hq123 hq124 hm128
                    refine v_iload C 5 dX9_findOdds_128 rfl ?_
                    refine v_iload C 4 dX9_findOdds_130 rfl ?_
                    refine b_icmp_gt C 198 dX9_findOdds_132 (by decide) (rfl : Int32.toInt y122 = _) hx119 (fun c130 => ?_) (fun c130 => ?_)
                    · obtain ⟨x131, ex131⟩ : ∃ y : Int32, y = y12 + 1 := ⟨_, rfl⟩
                      have hx131 : x131.toInt = (y12.toInt + 1) := by rw [ex131]; exact ti_add (rfl : Int32.toInt y12 = _) (show (1 : Int32).toInt = 1 by decide) (by omega) (by omega)
                      refine v_iinc (v := x131) (lv' := [(0, .ref (ad 68)), (1, .int x), (2, .int y), (3, .int x131), (5, .int x119), (6, .int y122)]) C 3 [1, 2, 3, 0, 4, 5] dX9_findOdds_198 rfl (ex131.symm) (by decide) rfl ?_
                      refine v_goto C 21 dX9_findOdds_201 (by decide) ?_
                      refine v_sub (lv' := [(0, .ref (ad 68)), (1, .int x), (2, .int y), (3, .int x131)]) [0, 1, 2, 3] rfl ?_
                      exact ih15 _ x131 (hJ126.toB (by decide) (by have := hx131; omega) (by have := hx131; omega)) (by have := hx131; omega) (by have := hx131; omega)
                    · refine v_aload_n C 0 dX9_findOdds_135 rfl rfl ?_
                      refine v_iload C 5 dX9_findOdds_136 rfl ?_
                      obtain ⟨im136, hM136, hb136⟩ := hJ126.1
                      have hq136 := hM136.b
                      refine v_cVi C dX9_findOdds_138 lX9_141 mX9_isDay 68 (by omega) hM136.2.2.1 (by decide) rfl (d_isDay l G _ ad _ hn hM136 y122) ⟨by decide, by decide⟩ rfl (Nat.le_of_ble_eq_true rfl) ⟨Nat.zero_le _, Nat.zero_le _⟩ (fun r132 E133 hq134 => ?_)
                      obtain ⟨hq134, hq134m⟩ := hq134
                      have hJ135 := hJ126.mr hb136 (by unfold PR; omega) (by unfold PR; omega) hq134m
                      have hcyr132 := cal_y hM136.2.1
                      rcases hq134 with ⟨rfl, hq134⟩ | ⟨rfl, hq134⟩
                      · refine b_if_eq C 198 dX9_findOdds_141 (by decide) (show (1 : Int32).toInt = 1 by decide) (fun c137 => absurd c137 (by decide)) (fun c137 => ?_)
                        refine v_aload_n C 0 dX9_findOdds_144 rfl rfl ?_
                        refine v_iload_n C 3 dX9_findOdds_145 rfl rfl ?_
                        refine v_sipush (v := 1440) C dX9_findOdds_146 (by decide) ?_
                        refine v_iload C 5 dX9_findOdds_149 rfl ?_
                        refine v_imul C dX9_findOdds_151 ?_
                        refine v_top (fun x138 ex138 => ?_)
                        have hx138 : x138.toInt = (1440 * y122.toInt) := by rw [ex138]; exact ti_mul (show (1440 : Int32).toInt = 1440 by decide) (rfl : Int32.toInt y122 = _) (by omega) (by omega)
                        refine v_sipush (v := 1440) C dX9_findOdds_152 (by decide) ?_
                        refine v_iload C 5 dX9_findOdds_155 rfl ?_
                        refine v_imul C dX9_findOdds_157 ?_
                        refine v_top (fun x139 ex139 => ?_)
                        have hx139 : x139.toInt = (1440 * y122.toInt) := by rw [ex139]; exact ti_mul (show (1440 : Int32).toInt = 1440 by decide) (rfl : Int32.toInt y122 = _) (by omega) (by omega)
                        refine v_sipush (v := 1440) C dX9_findOdds_158 (by decide) ?_
                        refine v_iadd C dX9_findOdds_161 ?_
                        refine v_top (fun x140 ex140 => ?_)
                        have hx140 : x140.toInt = ((1440 * y122.toInt) + 1440) := by rw [ex140]; exact ti_add hx139 (show (1440 : Int32).toInt = 1440 by decide) (by omega) (by omega)
                        refine v_iconst (v := 1) C dX9_findOdds_162 (by decide) ?_
                        refine v_isub C dX9_findOdds_163 ?_
                        refine v_top (fun x141 ex141 => ?_)
                        have hx141 : x141.toInt = (((1440 * y122.toInt) + 1440) - 1) := by rw [ex141]; exact ti_sub hx140 (show (1 : Int32).toInt = 1 by decide) (by omega) (by omega)
                        obtain ⟨im146, hM146, hb146⟩ := hJ135.1
                        have hq146 := hM146.b
                        refine v_cVi C dX9_findOdds_164 lX9_236 mX9_firstFrom 68 (by omega) hM146.2.2.1 (by decide) rfl (t_X9_firstFrom l G ad hJ135 y12 (show (0 : Int) ≤ Int32.toInt y12 ∧ Int32.toInt y12 ≤ 4 by omega) x138 x141) ⟨by decide, by decide⟩ rfl (Nat.le_of_ble_eq_true rfl) ⟨Nat.zero_le _, Nat.zero_le _⟩ (fun r142 E143 hp144 => ?_)
                        obtain ⟨hp144, hJ145⟩ := hp144
                        refine v_istore (lv' := [(0, .ref (ad 68)), (1, .int x), (2, .int y), (3, .int y12), (5, .int x119), (6, .int y122), (7, .int r142)]) C [1, 2, 3, 4, 5, 6, 0] dX9_findOdds_167 (by decide) rfl ?_
                        refine v_iload C 6 dX9_findOdds_169 rfl ?_
                        refine b_if_lt C 192 dX9_findOdds_171 (by decide) (rfl : Int32.toInt r142 = _) (fun c147 => ?_) (fun c147 => ?_)
                        · obtain ⟨x148, ex148⟩ : ∃ y : Int32, y = y122 + 1 := ⟨_, rfl⟩
                          have hx148 : x148.toInt = (y122.toInt + 1) := by rw [ex148]; exact ti_add (rfl : Int32.toInt y122 = _) (show (1 : Int32).toInt = 1 by decide) (by omega) (by omega)
                          refine v_iinc (v := x148) (lv' := [(0, .ref (ad 68)), (1, .int x), (2, .int y), (3, .int y12), (5, .int x119), (6, .int x148), (7, .int r142)]) C 5 [1, 2, 3, 4, 5, 0, 6] dX9_findOdds_192 rfl (ex148.symm) (by decide) rfl ?_
                          refine v_goto C 128 dX9_findOdds_195 (by decide) ?_
                          refine v_sub (lv' := [(0, .ref (ad 68)), (1, .int x), (2, .int y), (3, .int y12), (5, .int x119), (6, .int x148)]) [0, 1, 2, 3, 4, 5] rfl ?_
                          exact ih127 _ x148 (hJ145.toB (by decide) (by have := hx148; omega) (by have := hx148; omega)) (by have := hx148; omega) (by have := hx148; omega) (by have := hx148; omega) (by have := hx148; omega)
                        · refine v_aload_n C 0 dX9_findOdds_174 rfl rfl ?_
                          refine v_iload C 6 dX9_findOdds_175 rfl ?_
                          refine v_iload_n C 1 dX9_findOdds_177 rfl rfl ?_
                          refine v_iload_n C 2 dX9_findOdds_178 rfl rfl ?_
                          obtain ⟨im151, hM151, hb151⟩ := hJ145.1
                          have hq151 := hM151.b
                          refine v_cVv C dX9_findOdds_179 lX9_268 mX9_addOdd 68 (by omega) hM151.2.2.1 (by decide) rfl (t_X9_addOdd l G ad (show JM G ad n ic md (upB bd 41 (0, 2402 + 5188 * y12.toInt + 2 * (y122.toInt - (x.toInt / 1440 - 2)))) PR E0 E143 from hJ145.toB (by decide) (by omega) (by omega)) (show (0 : Int) ≤ 2402 + 5188 * y12.toInt + 2 * (y122.toInt - (x.toInt / 1440 - 2)) ∧ 2402 + 5188 * y12.toInt + 2 * (y122.toInt - (x.toInt / 1440 - 2)) ≤ 39999 by omega) r142 x y) ⟨by decide, by decide⟩ rfl (Nat.le_of_ble_eq_true rfl) ⟨Nat.zero_le _, Nat.zero_le _⟩ (fun E149 hJ150 => ?_)
                          refine v_aload_n C 0 dX9_findOdds_182 rfl rfl ?_
                          refine v_iload C 6 dX9_findOdds_183 rfl ?_
                          refine v_iconst (v := 1) C dX9_findOdds_185 (by decide) ?_
                          refine v_isub C dX9_findOdds_186 ?_
                          have := ti_any r142
                          refine v_top (fun x152 ex152 => ?_)
                          have hx152 : x152.toInt = (r142.toInt - 1) := by rw [ex152]; exact ti_sub (rfl : Int32.toInt r142 = _) (show (1 : Int32).toInt = 1 by decide) (by omega) (by omega)
                          refine v_iload_n C 1 dX9_findOdds_187 rfl rfl ?_
                          refine v_iload_n C 2 dX9_findOdds_188 rfl rfl ?_
                          obtain ⟨im155, hM155, hb155⟩ := hJ150.1
                          have hq155 := hM155.b
                          refine v_cVv C dX9_findOdds_189 lX9_268 mX9_addOdd 68 (by omega) hM155.2.2.1 (by decide) rfl (t_X9_addOdd l G ad (show JM G ad n ic md (upB bd 41 (0, 2402 + 5188 * y12.toInt + 2 * (y122.toInt - (x.toInt / 1440 - 2)) + 1)) PR E0 E149 from hJ150.toB (by decide) (by omega) (by omega)) (show (0 : Int) ≤ 2402 + 5188 * y12.toInt + 2 * (y122.toInt - (x.toInt / 1440 - 2)) + 1 ∧ 2402 + 5188 * y12.toInt + 2 * (y122.toInt - (x.toInt / 1440 - 2)) + 1 ≤ 39999 by omega) x152 x y) ⟨by decide, by decide⟩ rfl (Nat.le_of_ble_eq_true rfl) ⟨Nat.zero_le _, Nat.zero_le _⟩ (fun E153 hJ154 => ?_)
                          obtain ⟨x156, ex156⟩ : ∃ y : Int32, y = y122 + 1 := ⟨_, rfl⟩
                          have hx156 : x156.toInt = (y122.toInt + 1) := by rw [ex156]; exact ti_add (rfl : Int32.toInt y122 = _) (show (1 : Int32).toInt = 1 by decide) (by omega) (by omega)
                          refine v_iinc (v := x156) (lv' := [(0, .ref (ad 68)), (1, .int x), (2, .int y), (3, .int y12), (5, .int x119), (6, .int x156), (7, .int r142)]) C 5 [1, 2, 3, 4, 5, 0, 6] dX9_findOdds_192 rfl (ex156.symm) (by decide) rfl ?_
                          refine v_goto C 128 dX9_findOdds_195 (by decide) ?_
                          refine v_sub (lv' := [(0, .ref (ad 68)), (1, .int x), (2, .int y), (3, .int y12), (5, .int x119), (6, .int x156)]) [0, 1, 2, 3, 4, 5] rfl ?_
                          exact ih127 _ x156 (hJ154.toB (by decide) (by have := hx156; omega) (by have := hx156; omega)) (by have := hx156; omega) (by have := hx156; omega) (by have := hx156; omega) (by have := hx156; omega)
                      · refine b_if_eq C 198 dX9_findOdds_141 (by decide) (show (0 : Int32).toInt = 0 by decide) (fun c157 => ?_) (fun c157 => absurd c157 (by decide))
                        obtain ⟨x158, ex158⟩ : ∃ y : Int32, y = y12 + 1 := ⟨_, rfl⟩
                        have hx158 : x158.toInt = (y12.toInt + 1) := by rw [ex158]; exact ti_add (rfl : Int32.toInt y12 = _) (show (1 : Int32).toInt = 1 by decide) (by omega) (by omega)
                        refine v_iinc (v := x158) (lv' := [(0, .ref (ad 68)), (1, .int x), (2, .int y), (3, .int x158), (5, .int x119), (6, .int y122)]) C 3 [1, 2, 3, 0, 4, 5] dX9_findOdds_198 rfl (ex158.symm) (by decide) rfl ?_
                        refine v_goto C 21 dX9_findOdds_201 (by decide) ?_
                        refine v_sub (lv' := [(0, .ref (ad 68)), (1, .int x), (2, .int y), (3, .int x158)]) [0, 1, 2, 3] rfl ?_
                        exact ih15 _ x158 (hJ135.toB (by decide) (by have := hx158; omega) (by have := hx158; omega)) (by have := hx158; omega) (by have := hx158; omega)
                refine v_sub (lv' := [(0, .ref (ad 68)), (1, .int x), (2, .int y), (3, .int y12), (5, .int x119), (6, .int x117)]) [0, 1, 2, 3, 5, 6] rfl ?_
                exact LP121 100000 _ x117 (hJ107.toB (by decide) (by have := hx117; omega) (by have := hx117; omega)) (by have := hx117; omega) (by have := hx117; omega) (by have := hx117; omega) (by have := hx117; omega)
              · refine v_iconst (v := 0) C dX9_findOdds_120 (by decide) ?_
                refine v_goto C 126 dX9_findOdds_121 (by decide) ?_
                refine v_istore (lv' := [(0, .ref (ad 68)), (1, .int x), (2, .int y), (3, .int y12), (4, .int x117), (5, .int x119), (6, .int 0)]) C [1, 2, 3, 4, 5, 6, 0] dX9_findOdds_126 (by decide) rfl ?_
                have LP159 : ∀ (t : Nat) (E163 : Nat → va_E) (y160 : Int32), JM G ad n ic md (upB bd 41 (0, 2402 + 5188 * y12.toInt + 2 * (y160.toInt - (x.toInt / 1440 - 2)))) PR E0 E163 → ((0 : Int) ≤ y160.toInt ∧ y160.toInt ≤ 41669) → (x.toInt / 1440 - 2 ≤ y160.toInt) → (y160.toInt ≤ y.toInt / 1440 + 3) → 41670 - y160.toInt < (t : Int) → V X G A 8 (QV X G A (n) ad (fun E' => JM G ad n ic md bd PR E0 E')) n ad 0 0 E163 128 [(0, .ref (ad 68)), (1, .int x), (2, .int y), (3, .int y12), (5, .int x119), (6, .int y160)] [] := by
                  intro t167
                  induction t167 with
                  | zero => intro E163 y160 hJ164 hy160 hq161 hq162 hm166; exfalso; omega
                  | succ t167 ih165 =>
                    intro E163 y160 hJ164 hy160 hq161 hq162 hm166
                    refine v_iload C 5 dX9_findOdds_128 rfl ?_
                    refine v_iload C 4 dX9_findOdds_130 rfl ?_
                    refine b_icmp_gt C 198 dX9_findOdds_132 (by decide) (rfl : Int32.toInt y160 = _) hx119 (fun c168 => ?_) (fun c168 => ?_)
                    · obtain ⟨x169, ex169⟩ : ∃ y : Int32, y = y12 + 1 := ⟨_, rfl⟩
                      have hx169 : x169.toInt = (y12.toInt + 1) := by rw [ex169]; exact ti_add (rfl : Int32.toInt y12 = _) (show (1 : Int32).toInt = 1 by decide) (by omega) (by omega)
                      refine v_iinc (v := x169) (lv' := [(0, .ref (ad 68)), (1, .int x), (2, .int y), (3, .int x169), (5, .int x119), (6, .int y160)]) C 3 [1, 2, 3, 0, 4, 5] dX9_findOdds_198 rfl (ex169.symm) (by decide) rfl ?_
                      refine v_goto C 21 dX9_findOdds_201 (by decide) ?_
                      refine v_sub (lv' := [(0, .ref (ad 68)), (1, .int x), (2, .int y), (3, .int x169)]) [0, 1, 2, 3] rfl ?_
                      exact ih15 _ x169 (hJ164.toB (by decide) (by have := hx169; omega) (by have := hx169; omega)) (by have := hx169; omega) (by have := hx169; omega)
                    · refine v_aload_n C 0 dX9_findOdds_135 rfl rfl ?_
                      refine v_iload C 5 dX9_findOdds_136 rfl ?_
                      obtain ⟨im174, hM174, hb174⟩ := hJ164.1
                      have hq174 := hM174.b
                      refine v_cVi C dX9_findOdds_138 lX9_141 mX9_isDay 68 (by omega) hM174.2.2.1 (by decide) rfl (d_isDay l G _ ad _ hn hM174 y160) ⟨by decide, by decide⟩ rfl (Nat.le_of_ble_eq_true rfl) ⟨Nat.zero_le _, Nat.zero_le _⟩ (fun r170 E171 hq172 => ?_)
                      obtain ⟨hq172, hq172m⟩ := hq172
                      have hJ173 := hJ164.mr hb174 (by unfold PR; omega) (by unfold PR; omega) hq172m
                      have hcyr170 := cal_y hM174.2.1
                      rcases hq172 with ⟨rfl, hq172⟩ | ⟨rfl, hq172⟩
                      · refine b_if_eq C 198 dX9_findOdds_141 (by decide) (show (1 : Int32).toInt = 1 by decide) (fun c175 => absurd c175 (by decide)) (fun c175 => ?_)
                        refine v_aload_n C 0 dX9_findOdds_144 rfl rfl ?_
                        refine v_iload_n C 3 dX9_findOdds_145 rfl rfl ?_
                        refine v_sipush (v := 1440) C dX9_findOdds_146 (by decide) ?_
                        refine v_iload C 5 dX9_findOdds_149 rfl ?_
                        refine v_imul C dX9_findOdds_151 ?_
                        refine v_top (fun x176 ex176 => ?_)
                        have hx176 : x176.toInt = (1440 * y160.toInt) := by rw [ex176]; exact ti_mul (show (1440 : Int32).toInt = 1440 by decide) (rfl : Int32.toInt y160 = _) (by omega) (by omega)
                        refine v_sipush (v := 1440) C dX9_findOdds_152 (by decide) ?_
                        refine v_iload C 5 dX9_findOdds_155 rfl ?_
                        refine v_imul C dX9_findOdds_157 ?_
                        refine v_top (fun x177 ex177 => ?_)
                        have hx177 : x177.toInt = (1440 * y160.toInt) := by rw [ex177]; exact ti_mul (show (1440 : Int32).toInt = 1440 by decide) (rfl : Int32.toInt y160 = _) (by omega) (by omega)
                        refine v_sipush (v := 1440) C dX9_findOdds_158 (by decide) ?_
                        refine v_iadd C dX9_findOdds_161 ?_
                        refine v_top (fun x178 ex178 => ?_)
                        have hx178 : x178.toInt = ((1440 * y160.toInt) + 1440) := by rw [ex178]; exact ti_add hx177 (show (1440 : Int32).toInt = 1440 by decide) (by omega) (by omega)
                        refine v_iconst (v := 1) C dX9_findOdds_162 (by decide) ?_
                        refine v_isub C dX9_findOdds_163 ?_
                        refine v_top (fun x179 ex179 => ?_)
                        have hx179 : x179.toInt = (((1440 * y160.toInt) + 1440) - 1) := by rw [ex179]; exact ti_sub hx178 (show (1 : Int32).toInt = 1 by decide) (by omega) (by omega)
                        obtain ⟨im184, hM184, hb184⟩ := hJ173.1
                        have hq184 := hM184.b
                        refine v_cVi C dX9_findOdds_164 lX9_236 mX9_firstFrom 68 (by omega) hM184.2.2.1 (by decide) rfl (t_X9_firstFrom l G ad hJ173 y12 (show (0 : Int) ≤ Int32.toInt y12 ∧ Int32.toInt y12 ≤ 4 by omega) x176 x179) ⟨by decide, by decide⟩ rfl (Nat.le_of_ble_eq_true rfl) ⟨Nat.zero_le _, Nat.zero_le _⟩ (fun r180 E181 hp182 => ?_)
                        obtain ⟨hp182, hJ183⟩ := hp182
                        refine v_istore (lv' := [(0, .ref (ad 68)), (1, .int x), (2, .int y), (3, .int y12), (5, .int x119), (6, .int y160), (7, .int r180)]) C [1, 2, 3, 4, 5, 6, 0] dX9_findOdds_167 (by decide) rfl ?_
                        refine v_iload C 6 dX9_findOdds_169 rfl ?_
                        refine b_if_lt C 192 dX9_findOdds_171 (by decide) (rfl : Int32.toInt r180 = _) (fun c185 => ?_) (fun c185 => ?_)
                        · obtain ⟨x186, ex186⟩ : ∃ y : Int32, y = y160 + 1 := ⟨_, rfl⟩
                          have hx186 : x186.toInt = (y160.toInt + 1) := by rw [ex186]; exact ti_add (rfl : Int32.toInt y160 = _) (show (1 : Int32).toInt = 1 by decide) (by omega) (by omega)
                          refine v_iinc (v := x186) (lv' := [(0, .ref (ad 68)), (1, .int x), (2, .int y), (3, .int y12), (5, .int x119), (6, .int x186), (7, .int r180)]) C 5 [1, 2, 3, 4, 5, 0, 6] dX9_findOdds_192 rfl (ex186.symm) (by decide) rfl ?_
                          refine v_goto C 128 dX9_findOdds_195 (by decide) ?_
                          refine v_sub (lv' := [(0, .ref (ad 68)), (1, .int x), (2, .int y), (3, .int y12), (5, .int x119), (6, .int x186)]) [0, 1, 2, 3, 4, 5] rfl ?_
                          exact ih165 _ x186 (hJ183.toB (by decide) (by have := hx186; omega) (by have := hx186; omega)) (by have := hx186; omega) (by have := hx186; omega) (by have := hx186; omega) (by have := hx186; omega)
                        · refine v_aload_n C 0 dX9_findOdds_174 rfl rfl ?_
                          refine v_iload C 6 dX9_findOdds_175 rfl ?_
                          refine v_iload_n C 1 dX9_findOdds_177 rfl rfl ?_
                          refine v_iload_n C 2 dX9_findOdds_178 rfl rfl ?_
                          obtain ⟨im189, hM189, hb189⟩ := hJ183.1
                          have hq189 := hM189.b
                          refine v_cVv C dX9_findOdds_179 lX9_268 mX9_addOdd 68 (by omega) hM189.2.2.1 (by decide) rfl (t_X9_addOdd l G ad (show JM G ad n ic md (upB bd 41 (0, 2402 + 5188 * y12.toInt + 2 * (y160.toInt - (x.toInt / 1440 - 2)))) PR E0 E181 from hJ183.toB (by decide) (by omega) (by omega)) (show (0 : Int) ≤ 2402 + 5188 * y12.toInt + 2 * (y160.toInt - (x.toInt / 1440 - 2)) ∧ 2402 + 5188 * y12.toInt + 2 * (y160.toInt - (x.toInt / 1440 - 2)) ≤ 39999 by omega) r180 x y) ⟨by decide, by decide⟩ rfl (Nat.le_of_ble_eq_true rfl) ⟨Nat.zero_le _, Nat.zero_le _⟩ (fun E187 hJ188 => ?_)
                          refine v_aload_n C 0 dX9_findOdds_182 rfl rfl ?_
                          refine v_iload C 6 dX9_findOdds_183 rfl ?_
                          refine v_iconst (v := 1) C dX9_findOdds_185 (by decide) ?_
                          refine v_isub C dX9_findOdds_186 ?_
                          have := ti_any r180
                          refine v_top (fun x190 ex190 => ?_)
                          have hx190 : x190.toInt = (r180.toInt - 1) := by rw [ex190]; exact ti_sub (rfl : Int32.toInt r180 = _) (show (1 : Int32).toInt = 1 by decide) (by omega) (by omega)
                          refine v_iload_n C 1 dX9_findOdds_187 rfl rfl ?_
                          refine v_iload_n C 2 dX9_findOdds_188 rfl rfl ?_
                          obtain ⟨im193, hM193, hb193⟩ := hJ188.1
                          have hq193 := hM193.b
                          refine v_cVv C dX9_findOdds_189 lX9_268 mX9_addOdd 68 (by omega) hM193.2.2.1 (by decide) rfl (t_X9_addOdd l G ad (show JM G ad n ic md (upB bd 41 (0, 2402 + 5188 * y12.toInt + 2 * (y160.toInt - (x.toInt / 1440 - 2)) + 1)) PR E0 E187 from hJ188.toB (by decide) (by omega) (by omega)) (show (0 : Int) ≤ 2402 + 5188 * y12.toInt + 2 * (y160.toInt - (x.toInt / 1440 - 2)) + 1 ∧ 2402 + 5188 * y12.toInt + 2 * (y160.toInt - (x.toInt / 1440 - 2)) + 1 ≤ 39999 by omega) x190 x y) ⟨by decide, by decide⟩ rfl (Nat.le_of_ble_eq_true rfl) ⟨Nat.zero_le _, Nat.zero_le _⟩ (fun E191 hJ192 => ?_)
                          obtain ⟨x194, ex194⟩ : ∃ y : Int32, y = y160 + 1 := ⟨_, rfl⟩
                          have hx194 : x194.toInt = (y160.toInt + 1) := by rw [ex194]; exact ti_add (rfl : Int32.toInt y160 = _) (show (1 : Int32).toInt = 1 by decide) (by omega) (by omega)
                          refine v_iinc (v := x194) (lv' := [(0, .ref (ad 68)), (1, .int x), (2, .int y), (3, .int y12), (5, .int x119), (6, .int x194), (7, .int r180)]) C 5 [1, 2, 3, 4, 5, 0, 6] dX9_findOdds_192 rfl (ex194.symm) (by decide) rfl ?_
                          refine v_goto C 128 dX9_findOdds_195 (by decide) ?_
                          refine v_sub (lv' := [(0, .ref (ad 68)), (1, .int x), (2, .int y), (3, .int y12), (5, .int x119), (6, .int x194)]) [0, 1, 2, 3, 4, 5] rfl ?_
                          exact ih165 _ x194 (hJ192.toB (by decide) (by have := hx194; omega) (by have := hx194; omega)) (by have := hx194; omega) (by have := hx194; omega) (by have := hx194; omega) (by have := hx194; omega)
                      · refine b_if_eq C 198 dX9_findOdds_141 (by decide) (show (0 : Int32).toInt = 0 by decide) (fun c195 => ?_) (fun c195 => absurd c195 (by decide))
                        obtain ⟨x196, ex196⟩ : ∃ y : Int32, y = y12 + 1 := ⟨_, rfl⟩
                        have hx196 : x196.toInt = (y12.toInt + 1) := by rw [ex196]; exact ti_add (rfl : Int32.toInt y12 = _) (show (1 : Int32).toInt = 1 by decide) (by omega) (by omega)
                        refine v_iinc (v := x196) (lv' := [(0, .ref (ad 68)), (1, .int x), (2, .int y), (3, .int x196), (5, .int x119), (6, .int y160)]) C 3 [1, 2, 3, 0, 4, 5] dX9_findOdds_198 rfl (ex196.symm) (by decide) rfl ?_
                        refine v_goto C 21 dX9_findOdds_201 (by decide) ?_
                        refine v_sub (lv' := [(0, .ref (ad 68)), (1, .int x), (2, .int y), (3, .int x196)]) [0, 1, 2, 3] rfl ?_
                        exact ih15 _ x196 (hJ173.toB (by decide) (by have := hx196; omega) (by have := hx196; omega)) (by have := hx196; omega) (by have := hx196; omega)
                refine v_sub (lv' := [(0, .ref (ad 68)), (1, .int x), (2, .int y), (3, .int y12), (5, .int x119), (6, .int 0)]) [0, 1, 2, 3, 5, 6] rfl ?_
                exact LP159 100000 _ 0 (hJ107.toB (by decide) (by have := (show (0 : Int32).toInt = 0 by decide); omega) (by have := (show (0 : Int32).toInt = 0 by decide); omega)) (by have := (show (0 : Int32).toInt = 0 by decide); omega) (by have := (show (0 : Int32).toInt = 0 by decide); omega) (by have := (show (0 : Int32).toInt = 0 by decide); omega) (by have := (show (0 : Int32).toInt = 0 by decide); omega)
            · refine v_aload_n C 0 dX9_findOdds_48 rfl rfl ?_
              refine v_getr C 68 dX9_findOdds_49 fX9_61 (by omega) hM111.2.2.1 rfl rfl ?_
              refine v_sipush (v := 801) C dX9_findOdds_52 (by decide) ?_
              refine v_iload_n C 3 dX9_findOdds_55 rfl rfl ?_
              refine v_imul C dX9_findOdds_56 ?_
              refine v_top (fun x197 ex197 => ?_)
              have hx197 : x197.toInt = (801 * y12.toInt) := by rw [ex197]; exact ti_mul (show (801 : Int32).toInt = 801 by decide) (rfl : Int32.toInt y12 = _) (by omega) (by omega)
              refine v_iload C 4 dX9_findOdds_57 rfl ?_
              refine v_iadd C dX9_findOdds_59 ?_
              refine v_top (fun x198 ex198 => ?_)
              have hx198 : x198.toInt = ((801 * y12.toInt) + y105.toInt) := by rw [ex198]; exact ti_add hx197 (rfl : Int32.toInt y105 = _) (by omega) (by omega)
              obtain ⟨f200, hE200, hb200⟩ := hJ107.2.1.getA (b := 80) (by omega) rfl
              refine v_ald (v := f200 (((801 * y12.toInt) + y105.toInt)).toNat) C 80 dX9_findOdds_60 (by omega) hE200 (ti_in hx198 (by omega) (by omega)) (by rw [ti_cl hx198]) ?_
              refine v_top (fun x201 _ => ?_)
              refine v_istore (lv' := [(0, .ref (ad 68)), (1, .int x), (2, .int y), (3, .int y12), (4, .int y105), (5, .int x201)]) C [1, 2, 3, 4, 5, 0] dX9_findOdds_61 (by decide) rfl ?_
              refine v_aload_n C 0 dX9_findOdds_63 rfl rfl ?_
              refine v_iload C 5 dX9_findOdds_64 rfl ?_
              refine v_iconst (v := 1) C dX9_findOdds_66 (by decide) ?_
              refine v_isub C dX9_findOdds_67 ?_
              refine v_top (fun x202 _ => ?_)
              refine v_iload_n C 1 dX9_findOdds_68 rfl rfl ?_
              refine v_iload_n C 2 dX9_findOdds_69 rfl rfl ?_
              refine v_cVv C dX9_findOdds_70 lX9_268 mX9_addOdd 68 (by omega) hM111.2.2.1 (by decide) rfl (t_X9_addOdd l G ad (show JM G ad n ic md (upB bd 41 (0, 2 + 5188 * y12.toInt + 3 * (y105.toInt - 1))) PR E0 E106 from hJ107.toB (by decide) (by omega) (by omega)) (show (0 : Int) ≤ 2 + 5188 * y12.toInt + 3 * (y105.toInt - 1) ∧ 2 + 5188 * y12.toInt + 3 * (y105.toInt - 1) ≤ 39999 by omega) x202 x y) ⟨by decide, by decide⟩ rfl (Nat.le_of_ble_eq_true rfl) ⟨Nat.zero_le _, Nat.zero_le _⟩ (fun E203 hJ204 => ?_)
              refine v_aload_n C 0 dX9_findOdds_73 rfl rfl ?_
              refine v_iload C 5 dX9_findOdds_74 rfl ?_
              refine v_iload_n C 1 dX9_findOdds_76 rfl rfl ?_
              refine v_iload_n C 2 dX9_findOdds_77 rfl rfl ?_
              obtain ⟨im207, hM207, hb207⟩ := hJ204.1
              have hq207 := hM207.b
              refine v_cVv C dX9_findOdds_78 lX9_268 mX9_addOdd 68 (by omega) hM207.2.2.1 (by decide) rfl (t_X9_addOdd l G ad (show JM G ad n ic md (upB bd 41 (0, 2 + 5188 * y12.toInt + 3 * (y105.toInt - 1) + 1)) PR E0 E203 from hJ204.toB (by decide) (by omega) (by omega)) (show (0 : Int) ≤ 2 + 5188 * y12.toInt + 3 * (y105.toInt - 1) + 1 ∧ 2 + 5188 * y12.toInt + 3 * (y105.toInt - 1) + 1 ≤ 39999 by omega) x201 x y) ⟨by decide, by decide⟩ rfl (Nat.le_of_ble_eq_true rfl) ⟨Nat.zero_le _, Nat.zero_le _⟩ (fun E205 hJ206 => ?_)
              refine v_aload_n C 0 dX9_findOdds_81 rfl rfl ?_
              refine v_iload C 5 dX9_findOdds_82 rfl ?_
              refine v_iconst (v := 1) C dX9_findOdds_84 (by decide) ?_
              refine v_iadd C dX9_findOdds_85 ?_
              refine v_top (fun x208 _ => ?_)
              refine v_iload_n C 1 dX9_findOdds_86 rfl rfl ?_
              refine v_iload_n C 2 dX9_findOdds_87 rfl rfl ?_
              obtain ⟨im211, hM211, hb211⟩ := hJ206.1
              have hq211 := hM211.b
              refine v_cVv C dX9_findOdds_88 lX9_268 mX9_addOdd 68 (by omega) hM211.2.2.1 (by decide) rfl (t_X9_addOdd l G ad (show JM G ad n ic md (upB bd 41 (0, 2 + 5188 * y12.toInt + 3 * (y105.toInt - 1) + 1 + 1)) PR E0 E205 from hJ206.toB (by decide) (by omega) (by omega)) (show (0 : Int) ≤ 2 + 5188 * y12.toInt + 3 * (y105.toInt - 1) + 1 + 1 ∧ 2 + 5188 * y12.toInt + 3 * (y105.toInt - 1) + 1 + 1 ≤ 39999 by omega) x208 x y) ⟨by decide, by decide⟩ rfl (Nat.le_of_ble_eq_true rfl) ⟨Nat.zero_le _, Nat.zero_le _⟩ (fun E209 hJ210 => ?_)
              obtain ⟨x212, ex212⟩ : ∃ y : Int32, y = y105 + 1 := ⟨_, rfl⟩
              have hx212 : x212.toInt = (y105.toInt + 1) := by rw [ex212]; exact ti_add (rfl : Int32.toInt y105 = _) (show (1 : Int32).toInt = 1 by decide) (by omega) (by omega)
              refine v_iinc (v := x212) (lv' := [(0, .ref (ad 68)), (1, .int x), (2, .int y), (3, .int y12), (4, .int x212), (5, .int x201)]) C 4 [1, 2, 3, 4, 0, 5] dX9_findOdds_91 rfl (ex212.symm) (by decide) rfl ?_
              refine v_goto C 37 dX9_findOdds_94 (by decide) ?_
              refine v_sub (lv' := [(0, .ref (ad 68)), (1, .int x), (2, .int y), (3, .int y12), (4, .int x212)]) [0, 1, 2, 3, 4] rfl ?_
              exact ih108 _ x212 (hJ210.toB (by decide) (by have := hx212; omega) (by have := hx212; omega)) (by have := hx212; omega) (by have := hx212; omega)
        exact LP104 100000 _ 1 (hJ103.toB (by decide) (by have := (show (1 : Int32).toInt = 1 by decide); omega) (by have := (show (1 : Int32).toInt = 1 by decide); omega)) (by have := (show (1 : Int32).toInt = 1 by decide); omega) (by have := (show (1 : Int32).toInt = 1 by decide); omega)
  exact LP11 100000 _ 0 (hJ9.toB (by decide) (by have := (show (0 : Int32).toInt = 0 by decide); omega) (by have := (show (0 : Int32).toInt = 0 by decide); omega)) (by have := (show (0 : Int32).toInt = 0 by decide); omega) (by have := (show (0 : Int32).toInt = 0 by decide); omega)

set_option maxRecDepth 20000 in
theorem t_X9_odds (l : Launch) (G : Gl) (ad : Nat → Nat) {n : Nat} {ic md : Nat → Int32} {bd : Nat → Int × Int} {E0 E : Nat → va_E} (hJ : JM G ad n ic md bd PR E0 E) (hf41 : ((0 : Int) ≤ (bd 41).1 ∧ (bd 41).2 ≤ 40000) ∧ ((bd 41).1 ≤ 0 ∧ 40000 ≤ (bd 41).2)) (x : Int32) (y : Int32) : CtI l G yX9_odds cX9_odds 3 .int 6 150 (n) ad E [.ref (ad 68), .int x, .int y] (fun r E' => ((-2147483648 : Int) ≤ r.toInt ∧ r.toInt ≤ 2147483647) ∧ JM G ad n ic md bd PR E0 E') := by
  refine CtI.of (by decide) (Nat.le_of_ble_eq_true rfl) (fun X A C => ?_)
  refine v_sub (lv' := [(0, .ref (ad 68)), (1, .int x), (2, .int y)]) [0, 1, 2] rfl ?_
  have hn := hJ.hn
  have hz16 := hJ.2.2.2.2
  refine v_iload_n C 1 dX9_odds_0 rfl rfl ?_
  refine v_iload_n C 2 dX9_odds_1 rfl rfl ?_
  refine v_cSp C dX9_odds_2 lX9_277 mX9_areOdds (t_X9_areOdds l G ad hJ x y) ⟨by decide, by decide⟩ rfl (Nat.le_of_ble_eq_true rfl) ⟨Nat.zero_le _, Nat.zero_le _⟩ (fun r1 hp2 => ?_)
  rcases hp2 with ⟨rfl, hp2⟩ | ⟨rfl, hp2⟩
  · refine b_if_ne C 10 dX9_odds_5 (by decide) (show (1 : Int32).toInt = 1 by decide) (fun c3 => ?_) (fun c3 => absurd c3 (by decide))
    refine v_aload_n C 0 dX9_odds_10 rfl rfl ?_
    refine v_iload_n C 1 dX9_odds_11 rfl rfl ?_
    refine v_iload_n C 2 dX9_odds_12 rfl rfl ?_
    obtain ⟨im8, hM8, hb8⟩ := hJ.1
    have hq8 := hM8.b
    refine v_cVv C dX9_odds_13 lX9_280 mX9_findOdds 68 (by omega) hM8.2.2.1 (by decide) rfl (t_X9_findOdds l G ad hJ (by omega) x (show (0 : Int) ≤ Int32.toInt x ∧ Int32.toInt x ≤ 59999999 by omega) y (show (0 : Int) ≤ Int32.toInt y ∧ Int32.toInt y ≤ 59999999 by omega) (by omega)) ⟨by decide, by decide⟩ rfl (Nat.le_of_ble_eq_true rfl) ⟨Nat.zero_le _, Nat.zero_le _⟩ (fun E5 hJ7 => ?_)
    refine v_aload_n C 0 dX9_odds_16 rfl rfl ?_
    obtain ⟨im9, hM9, hb9⟩ := hJ7.1
    have hq9 := hM9.b
    refine v_geti (v := im9 41) C 68 dX9_odds_17 fX9_265 (by omega) hM9.2.2.1 rfl rfl ?_
    have him9_41r := hb9 41
    have him9_41 : (0 : Int) ≤ (im9 41).toInt ∧ (im9 41).toInt ≤ 40000 := by have := hb9 41; omega
    exact v_ret C dX9_odds_20 rfl rfl ⟨(ti_any (im9 41)), hJ7⟩
  · refine b_if_ne C 10 dX9_odds_5 (by decide) (show (0 : Int32).toInt = 0 by decide) (fun c10 => absurd c10 (by decide)) (fun c10 => ?_)
    refine v_iconst (v := (-1)) C dX9_odds_8 (by decide) ?_
    exact v_ret C dX9_odds_9 rfl rfl ⟨(ti_any (-1)), hJ⟩

set_option maxRecDepth 20000 in
theorem t_X9_odd (l : Launch) (G : Gl) (ad : Nat → Nat) {n : Nat} {ic md : Nat → Int32} {bd : Nat → Int × Int} {E0 E : Nat → va_E} (hJ : JM G ad n ic md bd PR E0 E) (hf41 : ((0 : Int) ≤ (bd 41).1 ∧ (bd 41).2 ≤ 40000) ∧ ((bd 41).1 ≤ 0 ∧ 40000 ≤ (bd 41).2)) (x : Int32) (y : Int32) (z : Int32) : CtI l G yX9_odd cX9_odd 4 .int 6 150 (n) ad E [.ref (ad 68), .int x, .int y, .int z] (fun r E' => ((-2147483648 : Int) ≤ r.toInt ∧ r.toInt ≤ 2147483647) ∧ JM G ad n ic md bd PR E0 E') := by
  refine CtI.of (by decide) (Nat.le_of_ble_eq_true rfl) (fun X A C => ?_)
  refine v_sub (lv' := [(0, .ref (ad 68)), (1, .int x), (2, .int y), (3, .int z)]) [0, 1, 2, 3] rfl ?_
  have hn := hJ.hn
  have hz16 := hJ.2.2.2.2
  refine v_iload_n C 1 dX9_odd_0 rfl rfl ?_
  refine v_iload_n C 2 dX9_odd_1 rfl rfl ?_
  refine v_cSp C dX9_odd_2 lX9_277 mX9_areOdds (t_X9_areOdds l G ad hJ x y) ⟨by decide, by decide⟩ rfl (Nat.le_of_ble_eq_true rfl) ⟨Nat.zero_le _, Nat.zero_le _⟩ (fun r1 hp2 => ?_)
  rcases hp2 with ⟨rfl, hp2⟩ | ⟨rfl, hp2⟩
  · refine b_if_ne C 10 dX9_odd_5 (by decide) (show (1 : Int32).toInt = 1 by decide) (fun c3 => ?_) (fun c3 => absurd c3 (by decide))
    refine v_aload_n C 0 dX9_odd_10 rfl rfl ?_
    refine v_iload_n C 1 dX9_odd_11 rfl rfl ?_
    refine v_iload_n C 2 dX9_odd_12 rfl rfl ?_
    obtain ⟨im8, hM8, hb8⟩ := hJ.1
    have hq8 := hM8.b
    refine v_cVv C dX9_odd_13 lX9_280 mX9_findOdds 68 (by omega) hM8.2.2.1 (by decide) rfl (t_X9_findOdds l G ad hJ (by omega) x (show (0 : Int) ≤ Int32.toInt x ∧ Int32.toInt x ≤ 59999999 by omega) y (show (0 : Int) ≤ Int32.toInt y ∧ Int32.toInt y ≤ 59999999 by omega) (by omega)) ⟨by decide, by decide⟩ rfl (Nat.le_of_ble_eq_true rfl) ⟨Nat.zero_le _, Nat.zero_le _⟩ (fun E5 hJ7 => ?_)
    refine v_iload_n C 3 dX9_odd_16 rfl rfl ?_
    refine b_if_lt C 37 dX9_odd_17 (by decide) (rfl : Int32.toInt z = _) (fun c9 => ?_) (fun c9 => ?_)
    · refine v_iconst (v := (-1)) C dX9_odd_37 (by decide) ?_
      exact v_ret C dX9_odd_38 rfl rfl ⟨(ti_any (-1)), hJ7⟩
    · refine v_iload_n C 3 dX9_odd_20 rfl rfl ?_
      refine v_aload_n C 0 dX9_odd_21 rfl rfl ?_
      obtain ⟨im10, hM10, hb10⟩ := hJ7.1
      have hq10 := hM10.b
      refine v_geti (v := im10 41) C 68 dX9_odd_22 fX9_265 (by omega) hM10.2.2.1 rfl rfl ?_
      have him10_41r := hb10 41
      have him10_41 : (0 : Int) ≤ (im10 41).toInt ∧ (im10 41).toInt ≤ 40000 := by have := hb10 41; omega
      refine b_icmp_ge C 37 dX9_odd_25 (by decide) (rfl : Int32.toInt z = _) (rfl : Int32.toInt (im10 41) = _) (fun c11 => ?_) (fun c11 => ?_)
      · refine v_iconst (v := (-1)) C dX9_odd_37 (by decide) ?_
        exact v_ret C dX9_odd_38 rfl rfl ⟨(ti_any (-1)), hJ7⟩
      · refine v_aload_n C 0 dX9_odd_28 rfl rfl ?_
        refine v_getr C 68 dX9_odd_29 fX9_113 (by omega) hM10.2.2.1 rfl rfl ?_
        refine v_iload_n C 3 dX9_odd_32 rfl rfl ?_
        obtain ⟨f13, hE13, hb13⟩ := hJ7.2.1.getA (b := 97) (by omega) rfl
        refine v_ald (v := f13 (z.toInt).toNat) C 97 dX9_odd_33 (by omega) hE13 (ti_in (rfl : Int32.toInt z = _) (by omega) (by omega)) (by rw [ti_cl (rfl : Int32.toInt z = _)]) ?_
        refine v_top (fun x14 _ => ?_)
        refine v_goto C 38 dX9_odd_34 (by decide) ?_
        exact v_ret C dX9_odd_38 rfl rfl ⟨(ti_any x14), hJ7⟩
  · refine b_if_ne C 10 dX9_odd_5 (by decide) (show (0 : Int32).toInt = 0 by decide) (fun c15 => absurd c15 (by decide)) (fun c15 => ?_)
    refine v_iconst (v := (-1)) C dX9_odd_8 (by decide) ?_
    exact v_ret C dX9_odd_9 rfl rfl ⟨(ti_any (-1)), hJ⟩

set_option maxRecDepth 20000 in
theorem t_X9_least (l : Launch) (G : Gl) (ad : Nat → Nat) {n : Nat} {ic md : Nat → Int32} {bd : Nat → Int × Int} {E0 E : Nat → va_E} (hJ : JM G ad n ic md bd PT E0 E) {gop gx gy fl : Nat → Int32} (hgo : E0 85 = aI G 60 gop) (hgx : E0 86 = aI G 60 gx) (hgy : E0 87 = aI G 60 gy) (hgl : E0 88 = aI G 6 fl) (hbl : ∀ k, 0 ≤ (fl k).toInt ∧ (fl k).toInt ≤ 10) (hLX : LXg gop gx) (hf32 : ((0 : Int) ≤ (bd 32).1 ∧ (bd 32).2 ≤ 10) ∧ ((bd 32).1 ≤ 0 ∧ 10 ≤ (bd 32).2)) (hf35 : ((0 : Int) ≤ (bd 35).1 ∧ (bd 35).2 ≤ 8) ∧ ((bd 35).1 ≤ 0 ∧ 8 ≤ (bd 35).2)) (hf41 : ((0 : Int) ≤ (bd 41).1 ∧ (bd 41).2 ≤ 40000) ∧ ((bd 41).1 ≤ 0 ∧ 40000 ≤ (bd 41).2)) (p : Int32) (x : Int32) (y : Int32) (u : Int32) (v : Int32) : CtI l G yX9_least cX9_least 6 .int 10 246 (n) ad E [.ref (ad 68), .int p, .int x, .int y, .int u, .int v] (fun r E' => ((-2147483648 : Int) ≤ r.toInt ∧ r.toInt ≤ 2147483647) ∧ JM G ad n ic md bd PT E0 E') := by
  refine CtI.of (by decide) (Nat.le_of_ble_eq_true rfl) (fun X A C => ?_)
  refine v_sub (lv' := [(0, .ref (ad 68)), (1, .int p), (2, .int x), (3, .int y), (4, .int u), (5, .int v)]) [0, 1, 2, 3, 4, 5] rfl ?_
  have hn := hJ.hn
  have hz16 := hJ.2.2.2.2
  refine v_iload_n C 1 dX9_least_0 rfl rfl ?_
  refine v_cSp C dX9_least_1 lX9_194 mX9_isProgram (t_X9_isProgram l G ad hJ.self p) ⟨by decide, by decide⟩ rfl (Nat.le_of_ble_eq_true rfl) ⟨Nat.zero_le _, Nat.zero_le _⟩ (fun r1 hp2 => ?_)
  rcases hp2 with ⟨rfl, hp2⟩ | ⟨rfl, hp2⟩
  · refine b_if_eq C 29 dX9_least_4 (by decide) (show (1 : Int32).toInt = 1 by decide) (fun c3 => absurd c3 (by decide)) (fun c3 => ?_)
    refine v_aload_n C 0 dX9_least_7 rfl rfl ?_
    refine v_iload_n C 2 dX9_least_8 rfl rfl ?_
    refine v_iload_n C 3 dX9_least_9 rfl rfl ?_
    obtain ⟨im6, hM6, hb6⟩ := hJ.1
    have hq6 := hM6.b
    refine v_cVp C dX9_least_10 lX9_259 mX9_isLaw 68 (by omega) hM6.2.2.1 (by decide) rfl (t_X9_isLaw l G ad hJ.self x y) ⟨by decide, by decide⟩ rfl (Nat.le_of_ble_eq_true rfl) ⟨Nat.zero_le _, Nat.zero_le _⟩ (fun r4 hp5 => ?_)
    rcases hp5 with ⟨rfl, hp5⟩ | ⟨rfl, hp5⟩
    · refine b_if_eq C 29 dX9_least_13 (by decide) (show (1 : Int32).toInt = 1 by decide) (fun c7 => absurd c7 (by decide)) (fun c7 => ?_)
      refine v_iload C 4 dX9_least_16 rfl ?_
      refine v_iload C 5 dX9_least_18 rfl ?_
      refine v_ldcw C dX9_least_20 kX9_276 ?_
      refine v_cSp C dX9_least_23 lX9_283 mX9_isRow (t_X9_isRow l G ad hJ.self u v 2000000 (show (0 : Int) ≤ Int32.toInt 2000000 ∧ Int32.toInt 2000000 ≤ 2000000 by decide)) ⟨by decide, by decide⟩ rfl (Nat.le_of_ble_eq_true rfl) ⟨Nat.zero_le _, Nat.zero_le _⟩ (fun r8 hp9 => ?_)
      have := (show (2000000 : Int32).toInt = 2000000 by decide)
      rcases hp9 with ⟨rfl, hp9⟩ | ⟨rfl, hp9⟩
      · refine b_if_ne C 31 dX9_least_26 (by decide) (show (1 : Int32).toInt = 1 by decide) (fun c10 => ?_) (fun c10 => absurd c10 (by decide))
        refine v_aload_n C 0 dX9_least_31 rfl rfl ?_
        refine v_iload_n C 1 dX9_least_32 rfl rfl ?_
        refine v_cVv C dX9_least_33 lX9_219 mX9_take 68 (by omega) hM6.2.2.1 (by decide) rfl (t_X9_take l G ad hJ hgo hgx hgy hgl hbl p (show (0 : Int) ≤ Int32.toInt p ∧ Int32.toInt p ≤ 5 by omega)) ⟨by decide, by decide⟩ rfl (Nat.le_of_ble_eq_true rfl) ⟨Nat.zero_le _, Nat.zero_le _⟩ (fun E11 hT13 => ?_)
        obtain ⟨fo13, fx13, fy13, h8913, h9013, h9113, hT13, hJ12⟩ := hT13
        have hbm13 := hbl (p.toInt).toNat
        have hox13 : OXm fo13 fx13 ((fl (p.toInt).toNat).toInt).toNat := fun j hj hq => by have q := hT13 j hj; rw [q.1] at hq; rw [q.2.1]; exact hLX _ (by omega) hq
        refine v_aload_n C 0 dX9_least_36 rfl rfl ?_
        obtain ⟨im19, hM19, hb19⟩ := hJ12.1
        have hq19 := hM19.b
        refine v_cVi C dX9_least_37 lX9_222 mX9_mixOf 68 (by omega) hM19.2.2.1 (by decide) rfl (t_X9_mixOf l G ad hJ12.self h8913 (show ((fl (p.toInt).toNat).toInt).toNat ≤ 10 by omega) (show ((((fl (p.toInt).toNat).toInt).toNat : Nat) : Int) ≤ (fl (p.toInt).toNat).toInt ∧ (fl (p.toInt).toNat).toInt ≤ ((((fl (p.toInt).toNat).toInt).toNat : Nat) : Int) by omega)) ⟨by decide, by decide⟩ rfl (Nat.le_of_ble_eq_true rfl) ⟨Nat.zero_le _, Nat.zero_le _⟩ (fun r14 E15 hp16 => ?_)
        rcases hp16 with ⟨hp16, hp16k, hJ17⟩ | ⟨hp16, hJ17⟩
        · have hJ18 := hJ12.trans (fun _ => PT_PR) hJ17
          have e20 := (hJ17.2.1.1 89 (by unfold PR; omega)).trans h8913
          have e21 := (hJ17.2.1.1 90 (by unfold PR; omega)).trans h9013
          have e22 := (hJ17.2.1.1 91 (by unfold PR; omega)).trans h9113
          obtain rfl : r14 = (-6 : Int32) := ti_ext (hp16.trans (by decide))
          refine v_bipush (v := (-6)) C dX9_least_40 (by decide) ?_
          refine b_icmp_eq C 48 dX9_least_42 (by decide) (show ((-6) : Int32).toInt = (-6) by decide) (show ((-6) : Int32).toInt = (-6) by decide) (fun c23 => ?_) (fun c23 => absurd c23 (by decide))
          refine v_aload_n C 0 dX9_least_48 rfl rfl ?_
          refine v_iload C 4 dX9_least_49 rfl ?_
          refine v_iload C 4 dX9_least_51 rfl ?_
          refine v_iload C 5 dX9_least_53 rfl ?_
          refine v_iadd C dX9_least_55 ?_
          refine v_top (fun x24 ex24 => ?_)
          have hx24 : x24.toInt = (u.toInt + v.toInt) := by rw [ex24]; exact ti_add (rfl : Int32.toInt u = _) (rfl : Int32.toInt v = _) (by omega) (by omega)
          obtain ⟨im29, hM29, hb29⟩ := hJ18.1
          have hq29 := hM29.b
          refine v_cVv C dX9_least_56 lX9_280 mX9_findOdds 68 (by omega) hM29.2.2.1 (by decide) rfl (t_X9_findOdds l G ad hJ18.self (show ((0 : Int) ≤ (bd 41).1 ∧ (bd 41).2 ≤ 40000) ∧ ((bd 41).1 ≤ (0 : Int) ∧ 40000 ≤ (bd 41).2) by omega) u (show (0 : Int) ≤ Int32.toInt u ∧ Int32.toInt u ≤ 59999999 by omega) x24 (show (0 : Int) ≤ Int32.toInt x24 ∧ Int32.toInt x24 ≤ 59999999 by have := hx24; omega) (by omega)) ⟨by decide, by decide⟩ rfl (Nat.le_of_ble_eq_true rfl) ⟨Nat.zero_le _, Nat.zero_le _⟩ (fun E26 hJ28 => ?_)
          have hJ30 := hJ18.trans (fun _ => PT_PR) hJ28
          have e31 := (hJ28.2.1.1 89 (by unfold PR; omega)).trans e20
          have e32 := (hJ28.2.1.1 90 (by unfold PR; omega)).trans e21
          have e33 := (hJ28.2.1.1 91 (by unfold PR; omega)).trans e22
          refine v_aload_n C 0 dX9_least_59 rfl rfl ?_
          refine v_iload_n C 2 dX9_least_60 rfl rfl ?_
          refine v_iload_n C 3 dX9_least_61 rfl rfl ?_
          obtain ⟨im38, hM38, hb38⟩ := hJ30.1
          have hq38 := hM38.b
          refine v_cVi C dX9_least_62 lX9_286 mX9_firstBroken 68 (by omega) hM38.2.2.1 (by decide) rfl (t_X9_firstBroken l G ad hJ30.self e31 e32 (show ((fl (p.toInt).toNat).toInt).toNat ≤ 10 by omega) hp16k hox13 (by decide) (show ((((fl (p.toInt).toNat).toInt).toNat : Nat) : Int) ≤ (fl (p.toInt).toNat).toInt ∧ (fl (p.toInt).toNat).toInt ≤ ((((fl (p.toInt).toNat).toInt).toNat : Nat) : Int) by omega) (show (0 : Int) ≤ (bd 41).1 ∧ (bd 41).2 ≤ 40000 by omega) x (show (0 : Int) ≤ Int32.toInt x ∧ Int32.toInt x ≤ 2147483647 by have := ti_any x; omega) y (by omega)) ⟨by decide, by decide⟩ rfl (Nat.le_of_ble_eq_true rfl) ⟨Nat.zero_le _, Nat.zero_le _⟩ (fun r34 E35 hp36 => ?_)
          obtain ⟨hp36, hJ37⟩ := hp36
          have hJ39 := hJ30.trans (fun _ => PT_PR) hJ37
          have e40 := (hJ37.2.1.1 89 (by unfold PR; omega)).trans e31
          have e41 := (hJ37.2.1.1 90 (by unfold PR; omega)).trans e32
          have e42 := (hJ37.2.1.1 91 (by unfold PR; omega)).trans e33
          exact v_ret C dX9_least_65 rfl rfl ⟨(ti_any r34), ((hJ39.outB (k := 35) (by decide) (show (bd 35).1 ≤ 0 by omega) (show 8 ≤ (bd 35).2 by omega)).outB (k := 32) (by decide) (show (bd 32).1 ≤ (fl (p.toInt).toNat).toInt by omega) (show (fl (p.toInt).toNat).toInt ≤ (bd 32).2 by omega))⟩
        · have hJ18 := hJ12.trans (fun _ => PT_PR) hJ17
          have e43 := (hJ17.2.1.1 89 (by unfold PR; omega)).trans h8913
          have e44 := (hJ17.2.1.1 90 (by unfold PR; omega)).trans h9013
          have e45 := (hJ17.2.1.1 91 (by unfold PR; omega)).trans h9113
          refine v_bipush (v := (-6)) C dX9_least_40 (by decide) ?_
          refine b_icmp_eq C 48 dX9_least_42 (by decide) (rfl : Int32.toInt r14 = _) (show ((-6) : Int32).toInt = (-6) by decide) (fun c46 => absurd c46 hp16) (fun c46 => ?_)
          refine v_bipush (v := (-4)) C dX9_least_45 (by decide) ?_
          exact v_ret C dX9_least_47 rfl rfl ⟨(ti_any (-4)), ((hJ18.outB (k := 35) (by decide) (show (bd 35).1 ≤ 0 by omega) (show 8 ≤ (bd 35).2 by omega)).outB (k := 32) (by decide) (show (bd 32).1 ≤ (fl (p.toInt).toNat).toInt by omega) (show (fl (p.toInt).toNat).toInt ≤ (bd 32).2 by omega))⟩
      · refine b_if_ne C 31 dX9_least_26 (by decide) (show (0 : Int32).toInt = 0 by decide) (fun c47 => absurd c47 (by decide)) (fun c47 => ?_)
        refine v_iconst (v := (-1)) C dX9_least_29 (by decide) ?_
        exact v_ret C dX9_least_30 rfl rfl ⟨(ti_any (-1)), hJ⟩
    · refine b_if_eq C 29 dX9_least_13 (by decide) (show (0 : Int32).toInt = 0 by decide) (fun c48 => ?_) (fun c48 => absurd c48 (by decide))
      refine v_iconst (v := (-1)) C dX9_least_29 (by decide) ?_
      exact v_ret C dX9_least_30 rfl rfl ⟨(ti_any (-1)), hJ⟩
  · refine b_if_eq C 29 dX9_least_4 (by decide) (show (0 : Int32).toInt = 0 by decide) (fun c49 => ?_) (fun c49 => absurd c49 (by decide))
    refine v_iconst (v := (-1)) C dX9_least_29 (by decide) ?_
    exact v_ret C dX9_least_30 rfl rfl ⟨(ti_any (-1)), hJ⟩

