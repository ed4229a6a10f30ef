set_option maxRecDepth 20000 in
theorem d_addOdd0 (l : Launch) (G : Gl) (n : Nat) (ad : Nat → Nat) (E : Nat → va_E) (hn : 98 ≤ n) {im : Nat → Int32} (h68 : E 68 = ob 9 (rX9 ad) im) {oq : Nat → Int32} (h97 : E 97 = aI G 40000 oq) (h41 : im 41 = 0) (m a b : Int32) (h1 : a.toInt ≤ m.toInt) (h2 : m.toInt ≤ b.toInt)  : CtV l G yX9_addOdd cX9_addOdd 4 0 0 n ad E [.ref (ad 68), .int m, .int a, .int b] (fun E' => E' 68 = ob 9 (rX9 ad) (va_up im 41 1) ∧ E' 97 = aI G 40000 (upd oq 0 m) ∧ ∀ j, j ≠ 68 → j ≠ 97 → E' j = E j) := by
  refine CtV.of (by decide) (Nat.le_of_ble_eq_true rfl) (fun X A C => ?_)
  refine v_sub (lv' := [(0, .ref (ad 68)), (1, .int m), (2, .int a), (3, .int b)]) [0, 1, 2, 3] rfl ?_
  refine v_iload_n C 1 dX9_addOdd_0 rfl rfl ?_
  refine v_iload_n C 2 dX9_addOdd_1 rfl rfl ?_
  refine b_icmp_lt C 30 dX9_addOdd_2 (by decide) (rfl : Int32.toInt m = _) (rfl : Int32.toInt a = _) (fun c1 => by exfalso; omega) (fun c1 => ?_)
  refine v_iload_n C 1 dX9_addOdd_5 rfl rfl ?_
  refine v_iload_n C 3 dX9_addOdd_6 rfl rfl ?_
  refine b_icmp_gt C 30 dX9_addOdd_7 (by decide) (rfl : Int32.toInt m = _) (rfl : Int32.toInt b = _) (fun c2 => by exfalso; omega) (fun c2 => ?_)
  refine v_aload_n C 0 dX9_addOdd_10 rfl rfl ?_
  refine v_getr C 68 dX9_addOdd_11 fX9_113 (by omega) h68 rfl rfl ?_
  refine v_aload_n C 0 dX9_addOdd_14 rfl rfl ?_
  refine v_geti (v := 0) C 68 dX9_addOdd_15 fX9_265 (by omega) h68 rfl h41 ?_
  refine v_iload_n C 1 dX9_addOdd_18 rfl rfl ?_
  refine v_ast C 97 dX9_addOdd_19 (by omega) h97 (ti_in (show (0 : Int32).toInt = 0 by decide) (by omega) (by omega)) (fun E3 hE3_97 oE3 => ?_)
  rw [ti_cl (show (0 : Int32).toInt = 0 by decide), show Int.toNat 0 = 0 by omega] at hE3_97
  have hE3_68 := (oE3 68 (by decide)).trans h68
  refine v_aload_n C 0 dX9_addOdd_20 rfl rfl ?_
  refine v_dup C dX9_addOdd_21 rfl ?_
  refine v_geti (v := 0) C 68 dX9_addOdd_22 fX9_265 (by omega) hE3_68 rfl h41 ?_
  refine v_iconst (v := 1) C dX9_addOdd_25 (by decide) ?_
  refine v_iadd C dX9_addOdd_26 ?_
  refine v_eq (y := 1) (by decide) ?_
  refine v_puti C 68 dX9_addOdd_27 fX9_265 (by omega) hE3_68 rfl rfl rfl rfl (fun E4 hE4_68 oE4 => ?_)
  have hE4_97 := (oE4 97 (by decide)).trans hE3_97
  exact v_vret C dX9_addOdd_30 rfl ⟨hE4_68, hE4_97, fun j h0 h7 => ((oE4 j h0).trans (oE3 j h7))⟩

set_option maxRecDepth 20000 in
theorem d_addOdd1 (l : Launch) (G : Gl) (n : Nat) (ad : Nat → Nat) (E : Nat → va_E) (hn : 98 ≤ n) {im : Nat → Int32} (h68 : E 68 = ob 9 (rX9 ad) im) {oq : Nat → Int32} (h97 : E 97 = aI G 40000 oq) (h41 : im 41 = 1) (m a b : Int32) (h1 : a.toInt ≤ m.toInt) (h2 : m.toInt ≤ b.toInt)  : CtV l G yX9_addOdd cX9_addOdd 4 0 0 n ad E [.ref (ad 68), .int m, .int a, .int b] (fun E' => E' 68 = ob 9 (rX9 ad) (va_up im 41 2) ∧ E' 97 = aI G 40000 (upd oq 1 m) ∧ ∀ j, j ≠ 68 → j ≠ 97 → E' j = E j) := by
  refine CtV.of (by decide) (Nat.le_of_ble_eq_true rfl) (fun X A C => ?_)
  refine v_sub (lv' := [(0, .ref (ad 68)), (1, .int m), (2, .int a), (3, .int b)]) [0, 1, 2, 3] rfl ?_
  refine v_iload_n C 1 dX9_addOdd_0 rfl rfl ?_
  refine v_iload_n C 2 dX9_addOdd_1 rfl rfl ?_
  refine b_icmp_lt C 30 dX9_addOdd_2 (by decide) (rfl : Int32.toInt m = _) (rfl : Int32.toInt a = _) (fun c1 => by exfalso; omega) (fun c1 => ?_)
  refine v_iload_n C 1 dX9_addOdd_5 rfl rfl ?_
  refine v_iload_n C 3 dX9_addOdd_6 rfl rfl ?_
  refine b_icmp_gt C 30 dX9_addOdd_7 (by decide) (rfl : Int32.toInt m = _) (rfl : Int32.toInt b = _) (fun c2 => by exfalso; omega) (fun c2 => ?_)
  refine v_aload_n C 0 dX9_addOdd_10 rfl rfl ?_
  refine v_getr C 68 dX9_addOdd_11 fX9_113 (by omega) h68 rfl rfl ?_
  refine v_aload_n C 0 dX9_addOdd_14 rfl rfl ?_
  refine v_geti (v := 1) C 68 dX9_addOdd_15 fX9_265 (by omega) h68 rfl h41 ?_
  refine v_iload_n C 1 dX9_addOdd_18 rfl rfl ?_
  refine v_ast C 97 dX9_addOdd_19 (by omega) h97 (ti_in (show (1 : Int32).toInt = 1 by decide) (by omega) (by omega)) (fun E3 hE3_97 oE3 => ?_)
  rw [ti_cl (show (1 : Int32).toInt = 1 by decide), show Int.toNat 1 = 1 by omega] at hE3_97
  have hE3_68 := (oE3 68 (by decide)).trans h68
  refine v_aload_n C 0 dX9_addOdd_20 rfl rfl ?_
  refine v_dup C dX9_addOdd_21 rfl ?_
  refine v_geti (v := 1) C 68 dX9_addOdd_22 fX9_265 (by omega) hE3_68 rfl h41 ?_
  refine v_iconst (v := 1) C dX9_addOdd_25 (by decide) ?_
  refine v_iadd C dX9_addOdd_26 ?_
  refine v_eq (y := 2) (by decide) ?_
  refine v_puti C 68 dX9_addOdd_27 fX9_265 (by omega) hE3_68 rfl rfl rfl rfl (fun E4 hE4_68 oE4 => ?_)
  have hE4_97 := (oE4 97 (by decide)).trans hE3_97
  exact v_vret C dX9_addOdd_30 rfl ⟨hE4_68, hE4_97, fun j h0 h7 => ((oE4 j h0).trans (oE3 j h7))⟩

set_option maxRecDepth 20000 in
theorem d_sinkN (l : Launch) (G : Gl) (n : Nat) (ad : Nat → Nat) (E : Nat → va_E) (hn : 98 ≤ n) {im : Nat → Int32} (h68 : E 68 = ob 9 (rX9 ad) im) (k m : Int32) (h1 : 0 ≤ k.toInt) (h2 : k.toInt ≤ 1000000) (h3 : m.toInt ≤ 2 * k.toInt + 1)  : CtV l G yX9_sink cX9_sink 7 0 0 n ad E [.ref (ad 68), .int k, .int m] (fun E' => E = E') := by
  refine CtV.of (by decide) (Nat.le_of_ble_eq_true rfl) (fun X A C => ?_)
  refine v_sub (lv' := [(0, .ref (ad 68)), (1, .int k), (2, .int m)]) [0, 1, 2] rfl ?_
  refine v_iload_n C 1 dX9_sink_0 rfl rfl ?_
  refine v_istore_n (lv' := [(0, .ref (ad 68)), (1, .int k), (2, .int m), (3, .int k)]) C [1, 2, 3, 0] dX9_sink_1 rfl (by decide) rfl ?_
  refine v_iconst (v := 1) C dX9_sink_2 (by decide) ?_
  refine v_istore (lv' := [(0, .ref (ad 68)), (1, .int k), (2, .int m), (3, .int k), (4, .int 1)]) C [1, 2, 3, 4, 0] dX9_sink_3 (by decide) rfl ?_
  refine v_iload C 4 dX9_sink_5 rfl ?_
  refine b_if_eq C 128 dX9_sink_7 (by decide) (show (1 : Int32).toInt = 1 by decide) (fun c1 => absurd c1 (by decide)) (fun c1 => ?_)
  refine v_iconst (v := 2) C dX9_sink_10 (by decide) ?_
  refine v_iload_n C 3 dX9_sink_11 rfl rfl ?_
  refine v_imul C dX9_sink_12 ?_
  refine v_top (fun x2 ex2 => ?_)
  have hx2 : x2.toInt = (2 * k.toInt) := by rw [ex2]; exact ti_mul (show (2 : Int32).toInt = 2 by decide) (rfl : Int32.toInt k = _) (by omega) (by omega)
  refine v_iconst (v := 1) C dX9_sink_13 (by decide) ?_
  refine v_iadd C dX9_sink_14 ?_
  refine v_top (fun x3 ex3 => ?_)
  have hx3 : x3.toInt = ((2 * k.toInt) + 1) := by rw [ex3]; exact ti_add hx2 (show (1 : Int32).toInt = 1 by decide) (by omega) (by omega)
  refine v_iload_n C 2 dX9_sink_15 rfl rfl ?_
  refine b_icmp_ge C 128 dX9_sink_16 (by decide) hx3 (rfl : Int32.toInt m = _) (fun c4 => ?_) (fun c4 => by exfalso; omega)
  exact v_vret C dX9_sink_128 rfl rfl

set_option maxRecDepth 20000 in
theorem d_sink02 (l : Launch) (G : Gl) (n : Nat) (ad : Nat → Nat) (E : Nat → va_E) (hn : 98 ≤ n) {im : Nat → Int32} (h68 : E 68 = ob 9 (rX9 ad) im) {oq : Nat → Int32} (h97 : E 97 = aI G 40000 oq) {A0 B0 : Int} (g0 : (oq 0).toInt = A0) (g1 : (oq 1).toInt = B0) (hAB : A0 ≤ B0)  : CtV l G yX9_sink cX9_sink 7 0 0 n ad E [.ref (ad 68), .int 0, .int 2] (fun E' => ∃ oq2 : Nat → Int32, E' 97 = aI G 40000 oq2 ∧ (oq2 0).toInt = B0 ∧ (oq2 1).toInt = A0 ∧ ∀ j, j ≠ 97 → E' j = E j) := by
  refine CtV.of (by decide) (Nat.le_of_ble_eq_true rfl) (fun X A C => ?_)
  refine v_sub (lv' := [(0, .ref (ad 68)), (1, .int 0), (2, .int 2)]) [0, 1, 2] rfl ?_
  refine v_iload_n C 1 dX9_sink_0 rfl rfl ?_
  refine v_istore_n (lv' := [(0, .ref (ad 68)), (1, .int 0), (2, .int 2), (3, .int 0)]) C [1, 2, 3, 0] dX9_sink_1 rfl (by decide) rfl ?_
  refine v_iconst (v := 1) C dX9_sink_2 (by decide) ?_
  refine v_istore (lv' := [(0, .ref (ad 68)), (1, .int 0), (2, .int 2), (3, .int 0), (4, .int 1)]) C [1, 2, 3, 4, 0] dX9_sink_3 (by decide) rfl ?_
  refine v_iload C 4 dX9_sink_5 rfl ?_
  refine b_if_eq C 128 dX9_sink_7 (by decide) (show (1 : Int32).toInt = 1 by decide) (fun c1 => absurd c1 (by decide)) (fun c1 => ?_)
  refine v_iconst (v := 2) C dX9_sink_10 (by decide) ?_
  refine v_iload_n C 3 dX9_sink_11 rfl rfl ?_
  refine v_imul C dX9_sink_12 ?_
  refine v_eq (y := 0) (by decide) ?_
  refine v_iconst (v := 1) C dX9_sink_13 (by decide) ?_
  refine v_iadd C dX9_sink_14 ?_
  refine v_eq (y := 1) (by decide) ?_
  refine v_iload_n C 2 dX9_sink_15 rfl rfl ?_
  refine b_icmp_ge C 128 dX9_sink_16 (by decide) (show (1 : Int32).toInt = 1 by decide) (show (2 : Int32).toInt = 2 by decide) (fun c2 => absurd c2 (by decide)) (fun c2 => ?_)
  refine v_iconst (v := 2) C dX9_sink_19 (by decide) ?_
  refine v_iload_n C 3 dX9_sink_20 rfl rfl ?_
  refine v_imul C dX9_sink_21 ?_
  refine v_eq (y := 0) (by decide) ?_
  refine v_iconst (v := 1) C dX9_sink_22 (by decide) ?_
  refine v_iadd C dX9_sink_23 ?_
  refine v_eq (y := 1) (by decide) ?_
  refine v_istore (lv' := [(0, .ref (ad 68)), (1, .int 0), (2, .int 2), (3, .int 0), (4, .int 1), (5, .int 1)]) C [1, 2, 3, 4, 5, 0] dX9_sink_24 (by decide) rfl ?_
  refine v_iload C 5 dX9_sink_26 rfl ?_
  refine v_iconst (v := 1) C dX9_sink_28 (by decide) ?_
  refine v_iadd C dX9_sink_29 ?_
  refine v_eq (y := 2) (by decide) ?_
  refine v_iload_n C 2 dX9_sink_30 rfl rfl ?_
  refine b_icmp_ge C 60 dX9_sink_31 (by decide) (show (2 : Int32).toInt = 2 by decide) (show (2 : Int32).toInt = 2 by decide) (fun c3 => ?_) (fun c3 => absurd c3 (by decide))
  refine v_iload C 5 dX9_sink_60 rfl ?_
  refine v_istore (lv' := [(0, .ref (ad 68)), (1, .int 0), (2, .int 2), (3, .int 0), (4, .int 1), (5, .int 1)]) C [1, 2, 3, 4, 5, 0] dX9_sink_62 (by decide) rfl ?_
  refine v_aload_n C 0 dX9_sink_64 rfl rfl ?_
  refine v_getr C 68 dX9_sink_65 fX9_113 (by omega) h68 rfl rfl ?_
  refine v_iload C 5 dX9_sink_68 rfl ?_
  refine v_ald (v := oq 1) C 97 dX9_sink_70 (by omega) h97 (ti_in (show (1 : Int32).toInt = 1 by decide) (by omega) (by omega)) (congrArg oq (by decide)) ?_
  refine v_aload_n C 0 dX9_sink_71 rfl rfl ?_
  refine v_getr C 68 dX9_sink_72 fX9_113 (by omega) h68 rfl rfl ?_
  refine v_iload_n C 3 dX9_sink_75 rfl rfl ?_
  refine v_ald (v := oq 0) C 97 dX9_sink_76 (by omega) h97 (ti_in (show (0 : Int32).toInt = 0 by decide) (by omega) (by omega)) (congrArg oq (by decide)) ?_
  refine b_icmp_le C 84 dX9_sink_77 (by decide) g1 g0 (fun c4 => ?_) (fun c4 => ?_)
  · refine v_iconst (v := 0) C dX9_sink_84 (by decide) ?_
    refine v_istore (lv' := [(0, .ref (ad 68)), (1, .int 0), (2, .int 2), (3, .int 0), (4, .int 0), (5, .int 1)]) C [1, 2, 3, 4, 0, 5] dX9_sink_85 (by decide) rfl ?_
    refine v_iload C 4 dX9_sink_87 rfl ?_
    refine b_if_eq C 125 dX9_sink_89 (by decide) (show (0 : Int32).toInt = 0 by decide) (fun c5 => ?_) (fun c5 => absurd c5 (by decide))
    refine v_goto C 5 dX9_sink_125 (by decide) ?_
    refine v_iload C 4 dX9_sink_5 rfl ?_
    refine b_if_eq C 128 dX9_sink_7 (by decide) (show (0 : Int32).toInt = 0 by decide) (fun c6 => ?_) (fun c6 => absurd c6 (by decide))
    exact v_vret C dX9_sink_128 rfl ⟨oq, h97, by rw [g0]; omega, by rw [g1]; omega, fun j _ => rfl⟩
  · refine v_iconst (v := 1) C dX9_sink_80 (by decide) ?_
    refine v_goto C 85 dX9_sink_81 (by decide) ?_
    refine v_istore (lv' := [(0, .ref (ad 68)), (1, .int 0), (2, .int 2), (3, .int 0), (4, .int 1), (5, .int 1)]) C [1, 2, 3, 4, 0, 5] dX9_sink_85 (by decide) rfl ?_
    refine v_iload C 4 dX9_sink_87 rfl ?_
    refine b_if_eq C 125 dX9_sink_89 (by decide) (show (1 : Int32).toInt = 1 by decide) (fun c7 => absurd c7 (by decide)) (fun c7 => ?_)
    refine v_aload_n C 0 dX9_sink_92 rfl rfl ?_
    refine v_getr C 68 dX9_sink_93 fX9_113 (by omega) h68 rfl rfl ?_
    refine v_iload C 5 dX9_sink_96 rfl ?_
    refine v_ald (v := oq 1) C 97 dX9_sink_98 (by omega) h97 (ti_in (show (1 : Int32).toInt = 1 by decide) (by omega) (by omega)) (congrArg oq (by decide)) ?_
    refine v_istore (lv' := [(0, .ref (ad 68)), (1, .int 0), (2, .int 2), (3, .int 0), (4, .int 1), (5, .int 1), (6, .int (oq 1))]) C [1, 2, 3, 4, 5, 6, 0] dX9_sink_99 (by decide) rfl ?_
    refine v_aload_n C 0 dX9_sink_101 rfl rfl ?_
    refine v_getr C 68 dX9_sink_102 fX9_113 (by omega) h68 rfl rfl ?_
    refine v_iload C 5 dX9_sink_105 rfl ?_
    refine v_aload_n C 0 dX9_sink_107 rfl rfl ?_
    refine v_getr C 68 dX9_sink_108 fX9_113 (by omega) h68 rfl rfl ?_
    refine v_iload_n C 3 dX9_sink_111 rfl rfl ?_
    refine v_ald (v := oq 0) C 97 dX9_sink_112 (by omega) h97 (ti_in (show (0 : Int32).toInt = 0 by decide) (by omega) (by omega)) (congrArg oq (by decide)) ?_
    refine v_ast C 97 dX9_sink_113 (by omega) h97 (ti_in (show (1 : Int32).toInt = 1 by decide) (by omega) (by omega)) (fun E8 hE8_97 oE8 => ?_)
    rw [ti_cl (show (1 : Int32).toInt = 1 by decide), show Int.toNat 1 = 1 by omega] at hE8_97
    have hE8_68 := (oE8 68 (by decide)).trans h68
    refine v_aload_n C 0 dX9_sink_114 rfl rfl ?_
    refine v_getr C 68 dX9_sink_115 fX9_113 (by omega) hE8_68 rfl rfl ?_
    refine v_iload_n C 3 dX9_sink_118 rfl rfl ?_
    refine v_iload C 6 dX9_sink_119 rfl ?_
    refine v_ast C 97 dX9_sink_121 (by omega) hE8_97 (ti_in (show (0 : Int32).toInt = 0 by decide) (by omega) (by omega)) (fun E9 hE9_97 oE9 => ?_)
    rw [ti_cl (show (0 : Int32).toInt = 0 by decide), show Int.toNat 0 = 0 by omega] at hE9_97
    have hE9_68 := (oE9 68 (by decide)).trans hE8_68
    refine v_iload C 5 dX9_sink_122 rfl ?_
    refine v_istore_n (lv' := [(0, .ref (ad 68)), (1, .int 0), (2, .int 2), (3, .int 1), (4, .int 1), (5, .int 1), (6, .int (oq 1))]) C [1, 2, 3, 0, 4, 5, 6] dX9_sink_124 rfl (by decide) rfl ?_
    refine v_goto C 5 dX9_sink_125 (by decide) ?_
    refine v_iload C 4 dX9_sink_5 rfl ?_
    refine b_if_eq C 128 dX9_sink_7 (by decide) (show (1 : Int32).toInt = 1 by decide) (fun c10 => absurd c10 (by decide)) (fun c10 => ?_)
    refine v_iconst (v := 2) C dX9_sink_10 (by decide) ?_
    refine v_iload_n C 3 dX9_sink_11 rfl rfl ?_
    refine v_imul C dX9_sink_12 ?_
    refine v_eq (y := 2) (by decide) ?_
    refine v_iconst (v := 1) C dX9_sink_13 (by decide) ?_
    refine v_iadd C dX9_sink_14 ?_
    refine v_eq (y := 3) (by decide) ?_
    refine v_iload_n C 2 dX9_sink_15 rfl rfl ?_
    refine b_icmp_ge C 128 dX9_sink_16 (by decide) (show (3 : Int32).toInt = 3 by decide) (show (2 : Int32).toInt = 2 by decide) (fun c11 => ?_) (fun c11 => absurd c11 (by decide))
    exact v_vret C dX9_sink_128 rfl ⟨_, hE9_97, (show (oq 1).toInt = _ from g1), (show (oq 0).toInt = _ from g0), fun j h0 => ((oE9 j h0).trans (oE8 j h0))⟩

set_option maxRecDepth 20000 in
theorem d_findOdds0 (l : Launch) (G : Gl) (n : Nat) (ad : Nat → Nat) (E : Nat → va_E) (hn : 98 ≤ n) {im : Nat → Int32} (h68 : E 68 = ob 9 (rX9 ad) im) (h16 : im 16 = 0) {oq : Nat → Int32} (h97 : E 97 = aI G 40000 oq) (a b : Int32) (hab : a.toInt ≤ b.toInt)  : CtV l G yX9_findOdds cX9_findOdds 8 1 26 n ad E [.ref (ad 68), .int a, .int b] (fun E' => ∃ im2 oq2 : Nat → Int32, E' 68 = ob 9 (rX9 ad) im2 ∧ (∀ k, k ≠ 41 → im2 k = im k) ∧ (im2 41).toInt = (if a.toInt = b.toInt then 1 else 2) ∧ E' 97 = aI G 40000 oq2 ∧ (oq2 0).toInt = a.toInt ∧ (¬ a.toInt = b.toInt → (oq2 1).toInt = b.toInt) ∧ ∀ j, j ≠ 68 → j ≠ 97 → E' j = E j) := by
  refine CtV.of (by decide) (Nat.le_of_ble_eq_true rfl) (fun X A C => ?_)
  refine v_sub (lv' := [(0, .ref (ad 68)), (1, .int a), (2, .int b)]) [0, 1, 2] rfl ?_
  refine v_aload_n C 0 dX9_findOdds_0 rfl rfl ?_
  refine v_iconst (v := 0) C dX9_findOdds_1 (by decide) ?_
  refine v_puti C 68 dX9_findOdds_2 fX9_265 (by omega) h68 rfl rfl rfl rfl (fun E1 hE1_68 oE1 => ?_)
  have hE1_97 := (oE1 97 (by decide)).trans h97
  refine v_aload_n C 0 dX9_findOdds_5 rfl rfl ?_
  refine v_iload_n C 1 dX9_findOdds_6 rfl rfl ?_
  refine v_iload_n C 1 dX9_findOdds_7 rfl rfl ?_
  refine v_iload_n C 2 dX9_findOdds_8 rfl rfl ?_
  refine v_cVv C dX9_findOdds_9 lX9_268 mX9_addOdd 68 (by omega) hE1_68 (by decide) rfl (d_addOdd0 l G n ad _ hn hE1_68 hE1_97 rfl a a b (by omega) (by omega)) ⟨by decide, by decide⟩ rfl (Nat.le_of_ble_eq_true rfl) ⟨Nat.zero_le _, Nat.zero_le _⟩ (fun E2 hq3 => ?_)
  obtain ⟨hE2_68, hE2_97, hO4⟩ := hq3
  refine v_aload_n C 0 dX9_findOdds_12 rfl rfl ?_
  refine v_iload_n C 2 dX9_findOdds_13 rfl rfl ?_
  refine v_iload_n C 1 dX9_findOdds_14 rfl rfl ?_
  refine v_iload_n C 2 dX9_findOdds_15 rfl rfl ?_
  refine v_cVv C dX9_findOdds_16 lX9_268 mX9_addOdd 68 (by omega) hE2_68 (by decide) rfl (d_addOdd1 l G n ad _ hn hE2_68 hE2_97 rfl b a b (by omega) (by omega)) ⟨by decide, by decide⟩ rfl (Nat.le_of_ble_eq_true rfl) ⟨Nat.zero_le _, Nat.zero_le _⟩ (fun E5 hq6 => ?_)
  obtain ⟨hE5_68, hE5_97, hO7⟩ := hq6
  refine v_iconst (v := 0) C dX9_findOdds_19 (by decide) ?_
  refine v_istore_n (lv' := [(0, .ref (ad 68)), (1, .int a), (2, .int b), (3, .int 0)]) C [1, 2, 3, 0] dX9_findOdds_20 rfl (by decide) rfl ?_
  refine v_iload_n C 3 dX9_findOdds_21 rfl rfl ?_
  refine v_aload_n C 0 dX9_findOdds_22 rfl rfl ?_
  refine v_geti (v := 0) C 68 dX9_findOdds_23 fX9_135 (by omega) hE5_68 rfl h16 ?_
  refine b_icmp_ge C 204 dX9_findOdds_26 (by decide) (show (0 : Int32).toInt = 0 by decide) (show (0 : Int32).toInt = 0 by decide) (fun c8 => ?_) (fun c8 => absurd c8 (by decide))
  refine v_aload_n C 0 dX9_findOdds_204 rfl rfl ?_
  refine v_geti (v := 2) C 68 dX9_findOdds_205 fX9_265 (by omega) hE5_68 rfl rfl ?_
  refine v_iconst (v := 2) C dX9_findOdds_208 (by decide) ?_
  refine v_idiv C dX9_findOdds_209 (by decide) ?_
  refine v_eq (y := 1) (by decide) ?_
  refine v_istore_n (lv' := [(0, .ref (ad 68)), (1, .int a), (2, .int b), (3, .int 1)]) C [1, 2, 3, 0] dX9_findOdds_210 rfl (by decide) rfl ?_
  refine v_iload_n C 3 dX9_findOdds_211 rfl rfl ?_
  refine b_if_lt C 230 dX9_findOdds_212 (by decide) (show (1 : Int32).toInt = 1 by decide) (fun c9 => absurd c9 (by decide)) (fun c9 => ?_)
  refine v_aload_n C 0 dX9_findOdds_215 rfl rfl ?_
  refine v_iload_n C 3 dX9_findOdds_216 rfl rfl ?_
  refine v_aload_n C 0 dX9_findOdds_217 rfl rfl ?_
  refine v_geti (v := 2) C 68 dX9_findOdds_218 fX9_265 (by omega) hE5_68 rfl rfl ?_
  refine v_cVv C dX9_findOdds_221 lX9_272 mX9_sink 68 (by omega) hE5_68 (by decide) rfl (d_sinkN l G n ad _ hn hE5_68 1 2 (by decide) (by decide) (by decide)) ⟨by decide, by decide⟩ rfl (Nat.le_of_ble_eq_true rfl) ⟨Nat.zero_le _, Nat.zero_le _⟩ (fun E10 hq11 => ?_)
  subst hq11
  refine v_iinc (v := 0) (lv' := [(0, .ref (ad 68)), (1, .int a), (2, .int b), (3, .int 0)]) C 3 [1, 2, 3, 0] dX9_findOdds_224 rfl (by decide) (by decide) rfl ?_
  refine v_goto C 211 dX9_findOdds_227 (by decide) ?_
  refine v_iload_n C 3 dX9_findOdds_211 rfl rfl ?_
  refine b_if_lt C 230 dX9_findOdds_212 (by decide) (show (0 : Int32).toInt = 0 by decide) (fun c12 => absurd c12 (by decide)) (fun c12 => ?_)
  refine v_aload_n C 0 dX9_findOdds_215 rfl rfl ?_
  refine v_iload_n C 3 dX9_findOdds_216 rfl rfl ?_
  refine v_aload_n C 0 dX9_findOdds_217 rfl rfl ?_
  refine v_geti (v := 2) C 68 dX9_findOdds_218 fX9_265 (by omega) hE5_68 rfl rfl ?_
  refine v_cVv C dX9_findOdds_221 lX9_272 mX9_sink 68 (by omega) hE5_68 (by decide) rfl (d_sink02 l G n ad _ hn hE5_68 hE5_97 (A0 := a.toInt) (B0 := b.toInt) rfl rfl (by omega)) ⟨by decide, by decide⟩ rfl (Nat.le_of_ble_eq_true rfl) ⟨Nat.zero_le _, Nat.zero_le _⟩ (fun E13 hq14 => ?_)
  obtain ⟨oq9, h97s, k0, k1, hOs⟩ := hq14
  have hE13_68 := (hOs 68 (by decide)).trans hE5_68
  refine v_iinc (v := (-1)) (lv' := [(0, .ref (ad 68)), (1, .int a), (2, .int b), (3, .int (-1))]) C 3 [1, 2, 3, 0] dX9_findOdds_224 rfl (by decide) (by decide) rfl ?_
  refine v_goto C 211 dX9_findOdds_227 (by decide) ?_
  refine v_iload_n C 3 dX9_findOdds_211 rfl rfl ?_
  refine b_if_lt C 230 dX9_findOdds_212 (by decide) (show ((-1) : Int32).toInt = (-1) by decide) (fun c15 => ?_) (fun c15 => absurd c15 (by decide))
  refine v_aload_n C 0 dX9_findOdds_230 rfl rfl ?_
  refine v_geti (v := 2) C 68 dX9_findOdds_231 fX9_265 (by omega) hE13_68 rfl rfl ?_
  refine v_iconst (v := 1) C dX9_findOdds_234 (by decide) ?_
  refine v_isub C dX9_findOdds_235 ?_
  refine v_eq (y := 1) (by decide) ?_
  refine v_istore_n (lv' := [(0, .ref (ad 68)), (1, .int a), (2, .int b), (3, .int 1)]) C [1, 2, 3, 0] dX9_findOdds_236 rfl (by decide) rfl ?_
  refine v_iload_n C 3 dX9_findOdds_237 rfl rfl ?_
  refine b_if_le C 281 dX9_findOdds_238 (by decide) (show (1 : Int32).toInt = 1 by decide) (fun c16 => absurd c16 (by decide)) (fun c16 => ?_)
  refine v_aload_n C 0 dX9_findOdds_241 rfl rfl ?_
  refine v_getr C 68 dX9_findOdds_242 fX9_113 (by omega) hE13_68 rfl rfl ?_
  refine v_iconst (v := 0) C dX9_findOdds_245 (by decide) ?_
  refine v_ald (v := oq9 0) C 97 dX9_findOdds_246 (by omega) h97s (ti_in (show (0 : Int32).toInt = 0 by decide) (by omega) (by omega)) ((congrArg (oq9) (show Int32.toNatClampNeg 0 = 0 by decide)).trans rfl) ?_
  refine v_istore (lv' := [(0, .ref (ad 68)), (1, .int a), (2, .int b), (3, .int 1), (4, .int (oq9 0))]) C [1, 2, 3, 4, 0] dX9_findOdds_247 (by decide) rfl ?_
  refine v_aload_n C 0 dX9_findOdds_249 rfl rfl ?_
  refine v_getr C 68 dX9_findOdds_250 fX9_113 (by omega) hE13_68 rfl rfl ?_
  refine v_iconst (v := 0) C dX9_findOdds_253 (by decide) ?_
  refine v_aload_n C 0 dX9_findOdds_254 rfl rfl ?_
  refine v_getr C 68 dX9_findOdds_255 fX9_113 (by omega) hE13_68 rfl rfl ?_
  refine v_iload_n C 3 dX9_findOdds_258 rfl rfl ?_
  refine v_ald (v := oq9 1) C 97 dX9_findOdds_259 (by omega) h97s (ti_in (show (1 : Int32).toInt = 1 by decide) (by omega) (by omega)) ((congrArg (oq9) (show Int32.toNatClampNeg 1 = 1 by decide)).trans rfl) ?_
  refine v_ast C 97 dX9_findOdds_260 (by omega) h97s (ti_in (show (0 : Int32).toInt = 0 by decide) (by omega) (by omega)) (fun E17 hE17_97 oE17 => ?_)
  rw [ti_cl (show (0 : Int32).toInt = 0 by decide), show Int.toNat 0 = 0 by omega] at hE17_97
  have hE17_68 := (oE17 68 (by decide)).trans hE13_68
  refine v_aload_n C 0 dX9_findOdds_261 rfl rfl ?_
  refine v_getr C 68 dX9_findOdds_262 fX9_113 (by omega) hE17_68 rfl rfl ?_
  refine v_iload_n C 3 dX9_findOdds_265 rfl rfl ?_
  refine v_iload C 4 dX9_findOdds_266 rfl ?_
  refine v_ast C 97 dX9_findOdds_268 (by omega) hE17_97 (ti_in (show (1 : Int32).toInt = 1 by decide) (by omega) (by omega)) (fun E18 hE18_97 oE18 => ?_)
  rw [ti_cl (show (1 : Int32).toInt = 1 by decide), show Int.toNat 1 = 1 by omega] at hE18_97
  have hE18_68 := (oE18 68 (by decide)).trans hE17_68
  refine v_aload_n C 0 dX9_findOdds_269 rfl rfl ?_
  refine v_iconst (v := 0) C dX9_findOdds_270 (by decide) ?_
  refine v_iload_n C 3 dX9_findOdds_271 rfl rfl ?_
  refine v_cVv C dX9_findOdds_272 lX9_272 mX9_sink 68 (by omega) hE18_68 (by decide) rfl (d_sinkN l G n ad _ hn hE18_68 0 1 (by decide) (by decide) (by decide)) ⟨by decide, by decide⟩ rfl (Nat.le_of_ble_eq_true rfl) ⟨Nat.zero_le _, Nat.zero_le _⟩ (fun E19 hq20 => ?_)
  subst hq20
  refine v_iinc (v := 0) (lv' := [(0, .ref (ad 68)), (1, .int a), (2, .int b), (3, .int 0), (4, .int (oq9 0))]) C 3 [1, 2, 3, 0, 4] dX9_findOdds_275 rfl (by decide) (by decide) rfl ?_
  refine v_goto C 237 dX9_findOdds_278 (by decide) ?_
  refine v_iload_n C 3 dX9_findOdds_237 rfl rfl ?_
  refine b_if_le C 281 dX9_findOdds_238 (by decide) (show (0 : Int32).toInt = 0 by decide) (fun c21 => ?_) (fun c21 => absurd c21 (by decide))
  refine v_iconst (v := 0) C dX9_findOdds_281 (by decide) ?_
  refine v_istore_n (lv' := [(0, .ref (ad 68)), (1, .int a), (2, .int b), (3, .int 0), (4, .int (oq9 0))]) C [1, 2, 3, 0, 4] dX9_findOdds_282 rfl (by decide) rfl ?_
  refine v_iconst (v := 0) C dX9_findOdds_283 (by decide) ?_
  refine v_istore (lv' := [(0, .ref (ad 68)), (1, .int a), (2, .int b), (3, .int 0), (4, .int 0)]) C [1, 2, 3, 4, 0] dX9_findOdds_284 (by decide) rfl ?_
  refine v_iload C 4 dX9_findOdds_286 rfl ?_
  refine v_aload_n C 0 dX9_findOdds_288 rfl rfl ?_
  refine v_geti (v := 2) C 68 dX9_findOdds_289 fX9_265 (by omega) hE18_68 rfl rfl ?_
  refine b_icmp_ge C 339 dX9_findOdds_292 (by decide) (show (0 : Int32).toInt = 0 by decide) (show (2 : Int32).toInt = 2 by decide) (fun c22 => absurd c22 (by decide)) (fun c22 => ?_)
  refine v_iload_n C 3 dX9_findOdds_295 rfl rfl ?_
  refine b_if_eq C 317 dX9_findOdds_296 (by decide) (show (0 : Int32).toInt = 0 by decide) (fun c23 => ?_) (fun c23 => absurd c23 (by decide))
  refine v_aload_n C 0 dX9_findOdds_317 rfl rfl ?_
  refine v_getr C 68 dX9_findOdds_318 fX9_113 (by omega) hE18_68 rfl rfl ?_
  refine v_iload_n C 3 dX9_findOdds_321 rfl rfl ?_
  refine v_aload_n C 0 dX9_findOdds_322 rfl rfl ?_
  refine v_getr C 68 dX9_findOdds_323 fX9_113 (by omega) hE18_68 rfl rfl ?_
  refine v_iload C 4 dX9_findOdds_326 rfl ?_
  refine v_ald (v := oq9 1) C 97 dX9_findOdds_328 (by omega) hE18_97 (ti_in (show (0 : Int32).toInt = 0 by decide) (by omega) (by omega)) ((congrArg (upd (upd oq9 0 (oq9 1)) 1 (oq9 0)) (show Int32.toNatClampNeg 0 = 0 by decide)).trans rfl) ?_
  refine v_ast C 97 dX9_findOdds_329 (by omega) hE18_97 (ti_in (show (0 : Int32).toInt = 0 by decide) (by omega) (by omega)) (fun E24 hE24_97 oE24 => ?_)
  rw [ti_cl (show (0 : Int32).toInt = 0 by decide), show Int.toNat 0 = 0 by omega] at hE24_97
  have hE24_68 := (oE24 68 (by decide)).trans hE18_68
  refine v_iinc (v := 1) (lv' := [(0, .ref (ad 68)), (1, .int a), (2, .int b), (3, .int 1), (4, .int 0)]) C 3 [1, 2, 3, 0, 4] dX9_findOdds_330 rfl (by decide) (by decide) rfl ?_
  refine v_iinc (v := 1) (lv' := [(0, .ref (ad 68)), (1, .int a), (2, .int b), (3, .int 1), (4, .int 1)]) C 4 [1, 2, 3, 4, 0] dX9_findOdds_333 rfl (by decide) (by decide) rfl ?_
  refine v_goto C 286 dX9_findOdds_336 (by decide) ?_
  refine v_iload C 4 dX9_findOdds_286 rfl ?_
  refine v_aload_n C 0 dX9_findOdds_288 rfl rfl ?_
  refine v_geti (v := 2) C 68 dX9_findOdds_289 fX9_265 (by omega) hE24_68 rfl rfl ?_
  refine b_icmp_ge C 339 dX9_findOdds_292 (by decide) (show (1 : Int32).toInt = 1 by decide) (show (2 : Int32).toInt = 2 by decide) (fun c25 => absurd c25 (by decide)) (fun c25 => ?_)
  refine v_iload_n C 3 dX9_findOdds_295 rfl rfl ?_
  refine b_if_eq C 317 dX9_findOdds_296 (by decide) (show (1 : Int32).toInt = 1 by decide) (fun c26 => absurd c26 (by decide)) (fun c26 => ?_)
  refine v_aload_n C 0 dX9_findOdds_299 rfl rfl ?_
  refine v_getr C 68 dX9_findOdds_300 fX9_113 (by omega) hE24_68 rfl rfl ?_
  refine v_iload C 4 dX9_findOdds_303 rfl ?_
  refine v_ald (v := oq9 0) C 97 dX9_findOdds_305 (by omega) hE24_97 (ti_in (show (1 : Int32).toInt = 1 by decide) (by omega) (by omega)) ((congrArg (upd (upd (upd oq9 0 (oq9 1)) 1 (oq9 0)) 0 (oq9 1)) (show Int32.toNatClampNeg 1 = 1 by decide)).trans rfl) ?_
  refine v_aload_n C 0 dX9_findOdds_306 rfl rfl ?_
  refine v_getr C 68 dX9_findOdds_307 fX9_113 (by omega) hE24_68 rfl rfl ?_
  refine v_iload_n C 3 dX9_findOdds_310 rfl rfl ?_
  refine v_iconst (v := 1) C dX9_findOdds_311 (by decide) ?_
  refine v_isub C dX9_findOdds_312 ?_
  refine v_eq (y := 0) (by decide) ?_
  refine v_ald (v := oq9 1) C 97 dX9_findOdds_313 (by omega) hE24_97 (ti_in (show (0 : Int32).toInt = 0 by decide) (by omega) (by omega)) ((congrArg (upd (upd (upd oq9 0 (oq9 1)) 1 (oq9 0)) 0 (oq9 1)) (show Int32.toNatClampNeg 0 = 0 by decide)).trans rfl) ?_
  refine b_icmp_eq C 333 dX9_findOdds_314 (by decide) k0 k1 (fun c27 => ?_) (fun c27 => ?_)
  · refine v_iinc (v := 2) (lv' := [(0, .ref (ad 68)), (1, .int a), (2, .int b), (3, .int 1), (4, .int 2)]) C 4 [1, 2, 3, 4, 0] dX9_findOdds_333 rfl (by decide) (by decide) rfl ?_
    refine v_goto C 286 dX9_findOdds_336 (by decide) ?_
    refine v_iload C 4 dX9_findOdds_286 rfl ?_
    refine v_aload_n C 0 dX9_findOdds_288 rfl rfl ?_
    refine v_geti (v := 2) C 68 dX9_findOdds_289 fX9_265 (by omega) hE24_68 rfl rfl ?_
    refine b_icmp_ge C 339 dX9_findOdds_292 (by decide) (show (2 : Int32).toInt = 2 by decide) (show (2 : Int32).toInt = 2 by decide) (fun c28 => ?_) (fun c28 => absurd c28 (by decide))
    refine v_aload_n C 0 dX9_findOdds_339 rfl rfl ?_
    refine v_iload_n C 3 dX9_findOdds_340 rfl rfl ?_
    refine v_puti C 68 dX9_findOdds_341 fX9_265 (by omega) hE24_68 rfl rfl rfl rfl (fun E29 hE29_68 oE29 => ?_)
    have hE29_97 := (oE29 97 (by decide)).trans hE24_97
    exact v_vret C dX9_findOdds_344 rfl ⟨_, _, hE29_68, (fun k hk => by simp only [va_up, if_neg hk]), (show (1 : Int32).toInt = _ by rw [if_pos (by omega)]; decide), hE29_97, (show Int32.toInt (oq9 1) = _ from k1), (fun h => (show Int32.toInt (oq9 0) = _ from k0)), fun j h0 h7 => ((oE29 j h0).trans ((oE24 j h7).trans ((oE18 j h7).trans ((oE17 j h7).trans ((hOs j h7).trans ((hO7 j h0 h7).trans ((hO4 j h0 h7).trans (oE1 j h0))))))))⟩
  · refine v_aload_n C 0 dX9_findOdds_317 rfl rfl ?_
    refine v_getr C 68 dX9_findOdds_318 fX9_113 (by omega) hE24_68 rfl rfl ?_
    refine v_iload_n C 3 dX9_findOdds_321 rfl rfl ?_
    refine v_aload_n C 0 dX9_findOdds_322 rfl rfl ?_
    refine v_getr C 68 dX9_findOdds_323 fX9_113 (by omega) hE24_68 rfl rfl ?_
    refine v_iload C 4 dX9_findOdds_326 rfl ?_
    refine v_ald (v := oq9 0) C 97 dX9_findOdds_328 (by omega) hE24_97 (ti_in (show (1 : Int32).toInt = 1 by decide) (by omega) (by omega)) ((congrArg (upd (upd (upd oq9 0 (oq9 1)) 1 (oq9 0)) 0 (oq9 1)) (show Int32.toNatClampNeg 1 = 1 by decide)).trans rfl) ?_
    refine v_ast C 97 dX9_findOdds_329 (by omega) hE24_97 (ti_in (show (1 : Int32).toInt = 1 by decide) (by omega) (by omega)) (fun E30 hE30_97 oE30 => ?_)
    rw [ti_cl (show (1 : Int32).toInt = 1 by decide), show Int.toNat 1 = 1 by omega] at hE30_97
    have hE30_68 := (oE30 68 (by decide)).trans hE24_68
    refine v_iinc (v := 2) (lv' := [(0, .ref (ad 68)), (1, .int a), (2, .int b), (3, .int 2), (4, .int 1)]) C 3 [1, 2, 3, 0, 4] dX9_findOdds_330 rfl (by decide) (by decide) rfl ?_
    refine v_iinc (v := 2) (lv' := [(0, .ref (ad 68)), (1, .int a), (2, .int b), (3, .int 2), (4, .int 2)]) C 4 [1, 2, 3, 4, 0] dX9_findOdds_333 rfl (by decide) (by decide) rfl ?_
    refine v_goto C 286 dX9_findOdds_336 (by decide) ?_
    refine v_iload C 4 dX9_findOdds_286 rfl ?_
    refine v_aload_n C 0 dX9_findOdds_288 rfl rfl ?_
    refine v_geti (v := 2) C 68 dX9_findOdds_289 fX9_265 (by omega) hE30_68 rfl rfl ?_
    refine b_icmp_ge C 339 dX9_findOdds_292 (by decide) (show (2 : Int32).toInt = 2 by decide) (show (2 : Int32).toInt = 2 by decide) (fun c31 => ?_) (fun c31 => absurd c31 (by decide))
    refine v_aload_n C 0 dX9_findOdds_339 rfl rfl ?_
    refine v_iload_n C 3 dX9_findOdds_340 rfl rfl ?_
    refine v_puti C 68 dX9_findOdds_341 fX9_265 (by omega) hE30_68 rfl rfl rfl rfl (fun E32 hE32_68 oE32 => ?_)
    have hE32_97 := (oE32 97 (by decide)).trans hE30_97
    exact v_vret C dX9_findOdds_344 rfl ⟨_, _, hE32_68, (fun k hk => by simp only [va_up, if_neg hk]), (show (2 : Int32).toInt = _ by rw [if_neg (by omega)]; decide), hE32_97, (show Int32.toInt (oq9 1) = _ from k1), (fun h => (show Int32.toInt (oq9 0) = _ from k0)), fun j h0 h7 => ((oE32 j h0).trans ((oE30 j h7).trans ((oE24 j h7).trans ((oE18 j h7).trans ((oE17 j h7).trans ((hOs j h7).trans ((hO7 j h0 h7).trans ((hO4 j h0 h7).trans (oE1 j h0)))))))))⟩

set_option maxRecDepth 20000 in
theorem m_odds (l : Launch) (G : Gl) (n : Nat) (ad : Nat → Nat) (E : Nat → va_E) (hn : 98 ≤ n) (hf : FreshM G ad E) (a : Int32) (b : Int32)  : CtI l G yX9_odds cX9_odds 3 .int 3 64 n ad E [.ref (ad 68), .int a, .int b] (fun r E' => r.toInt = if okRng a.toInt b.toInt then (if a.toInt = b.toInt then 1 else 2) else -1) := by
  refine CtI.of (by decide) (Nat.le_of_ble_eq_true rfl) (fun X A C => ?_)
  obtain ⟨h68, h69, h70, h71, h72, h73, h74, h75, h76, h77, h78, h79, h80, h81, h82, h83, h84, h85, h86, h87, h88, h89, h90, h91, h92, h93, h94, h95, h96, h97⟩ := id hf
  refine v_sub (lv' := [(0, .ref (ad 68)), (1, .int a), (2, .int b)]) [0, 1, 2] rfl ?_
  refine v_iload_n C 1 dX9_odds_0 rfl rfl ?_
  refine v_iload_n C 2 dX9_odds_1 rfl rfl ?_
  refine v_cSp C dX9_odds_2 lX9_277 mX9_areOdds (d_areOdds l G n ad _ a b) ⟨by decide, by decide⟩ rfl (Nat.le_of_ble_eq_true rfl) ⟨Nat.zero_le _, Nat.zero_le _⟩ (fun r1 hp2 => ?_)
  unfold okRng at hp2
  rcases hp2 with ⟨rfl, hp2⟩ | ⟨rfl, hp2⟩
  · refine b_if_ne C 10 dX9_odds_5 (by decide) (show (1 : Int32).toInt = 1 by decide) (fun c3 => ?_) (fun c3 => absurd c3 (by decide))
    refine v_aload_n C 0 dX9_odds_10 rfl rfl ?_
    refine v_iload_n C 1 dX9_odds_11 rfl rfl ?_
    refine v_iload_n C 2 dX9_odds_12 rfl rfl ?_
    refine v_cVv C dX9_odds_13 lX9_280 mX9_findOdds 68 (by omega) h68 (by decide) rfl (d_findOdds0 l G n ad _ hn h68 rfl h97 a b (by omega)) ⟨by decide, by decide⟩ rfl (Nat.le_of_ble_eq_true rfl) ⟨Nat.zero_le _, Nat.zero_le _⟩ (fun E4 hq5 => ?_)
    obtain ⟨im2, oq2, k68, kk, kc, k97, k0, k1, kO⟩ := hq5
    refine v_aload_n C 0 dX9_odds_16 rfl rfl ?_
    refine v_geti (v := im2 41) C 68 dX9_odds_17 fX9_265 (by omega) k68 rfl rfl ?_
    exact v_ret C dX9_odds_20 rfl rfl (show _ by rw [if_pos (show okRng a.toInt b.toInt by unfold okRng; omega)]; exact kc)
  · refine b_if_ne C 10 dX9_odds_5 (by decide) (show (0 : Int32).toInt = 0 by decide) (fun c6 => absurd c6 (by decide)) (fun c6 => ?_)
    refine v_iconst (v := (-1)) C dX9_odds_8 (by decide) ?_
    exact v_ret C dX9_odds_9 rfl rfl (show _ by rw [show (-1 : Int32).toInt = -1 by decide, if_neg (by unfold okRng; omega)])

set_option maxRecDepth 20000 in
theorem m_odd (l : Launch) (G : Gl) (n : Nat) (ad : Nat → Nat) (E : Nat → va_E) (hn : 98 ≤ n) (hf : FreshM G ad E) (a : Int32) (b : Int32) (i : Int32)  : CtI l G yX9_odd cX9_odd 4 .int 3 64 n ad E [.ref (ad 68), .int a, .int b, .int i] (fun r E' => r.toInt = if okRng a.toInt b.toInt ∧ i.toInt = 0 then a.toInt else if okRng a.toInt b.toInt ∧ i.toInt = 1 ∧ ¬ a.toInt = b.toInt then b.toInt else -1) := by
  refine CtI.of (by decide) (Nat.le_of_ble_eq_true rfl) (fun X A C => ?_)
  obtain ⟨h68, h69, h70, h71, h72, h73, h74, h75, h76, h77, h78, h79, h80, h81, h82, h83, h84, h85, h86, h87, h88, h89, h90, h91, h92, h93, h94, h95, h96, h97⟩ := id hf
  refine v_sub (lv' := [(0, .ref (ad 68)), (1, .int a), (2, .int b), (3, .int i)]) [0, 1, 2, 3] rfl ?_
  refine v_iload_n C 1 dX9_odd_0 rfl rfl ?_
  refine v_iload_n C 2 dX9_odd_1 rfl rfl ?_
  refine v_cSp C dX9_odd_2 lX9_277 mX9_areOdds (d_areOdds l G n ad _ a b) ⟨by decide, by decide⟩ rfl (Nat.le_of_ble_eq_true rfl) ⟨Nat.zero_le _, Nat.zero_le _⟩ (fun r1 hp2 => ?_)
  unfold okRng at hp2
  rcases hp2 with ⟨rfl, hp2⟩ | ⟨rfl, hp2⟩
  · refine b_if_ne C 10 dX9_odd_5 (by decide) (show (1 : Int32).toInt = 1 by decide) (fun c3 => ?_) (fun c3 => absurd c3 (by decide))
    refine v_aload_n C 0 dX9_odd_10 rfl rfl ?_
    refine v_iload_n C 1 dX9_odd_11 rfl rfl ?_
    refine v_iload_n C 2 dX9_odd_12 rfl rfl ?_
    refine v_cVv C dX9_odd_13 lX9_280 mX9_findOdds 68 (by omega) h68 (by decide) rfl (d_findOdds0 l G n ad _ hn h68 rfl h97 a b (by omega)) ⟨by decide, by decide⟩ rfl (Nat.le_of_ble_eq_true rfl) ⟨Nat.zero_le _, Nat.zero_le _⟩ (fun E4 hq5 => ?_)
    obtain ⟨im2, oq2, k68, kk, kc, k97, k0, k1, kO⟩ := hq5
    refine v_iload_n C 3 dX9_odd_16 rfl rfl ?_
    refine b_if_lt C 37 dX9_odd_17 (by decide) (rfl : Int32.toInt i = _) (fun c6 => ?_) (fun c6 => ?_)
    · refine v_iconst (v := (-1)) C dX9_odd_37 (by decide) ?_
      refine v_ret C dX9_odd_38 rfl rfl ?_
      show Int32.toInt (-1) = _
      rw [show (-1 : Int32).toInt = -1 by decide]
      by_cases h : a.toInt = b.toInt
      · rw [if_pos h] at kc; rw [if_neg (by omega), if_neg (by omega)]
      · rw [if_neg h] at kc; rw [if_neg (by omega), if_neg (by omega)]
    · refine v_iload_n C 3 dX9_odd_20 rfl rfl ?_
      refine v_aload_n C 0 dX9_odd_21 rfl rfl ?_
      refine v_geti (v := im2 41) C 68 dX9_odd_22 fX9_265 (by omega) k68 rfl rfl ?_
      have glb : (im2 41).toInt = 1 ∨ (im2 41).toInt = 2 := by rw [kc]; split <;> simp
      refine b_icmp_ge C 37 dX9_odd_25 (by decide) (rfl : Int32.toInt i = _) (rfl : Int32.toInt (im2 41) = _) (fun c7 => ?_) (fun c7 => ?_)
      · refine v_iconst (v := (-1)) C dX9_odd_37 (by decide) ?_
        refine v_ret C dX9_odd_38 rfl rfl ?_
        show Int32.toInt (-1) = _
        rw [show (-1 : Int32).toInt = -1 by decide]
        by_cases h : a.toInt = b.toInt
        · rw [if_pos h] at kc; rw [if_neg (by omega), if_neg (by omega)]
        · rw [if_neg h] at kc; rw [if_neg (by omega), if_neg (by omega)]
      · refine v_aload_n C 0 dX9_odd_28 rfl rfl ?_
        refine v_getr C 68 dX9_odd_29 fX9_113 (by omega) k68 rfl rfl ?_
        refine v_iload_n C 3 dX9_odd_32 rfl rfl ?_
        refine v_ald (v := oq2 (i.toInt).toNat) C 97 dX9_odd_33 (by omega) k97 (ti_in (rfl : Int32.toInt i = _) (by omega) (by omega)) (by rw [ti_cl (rfl : Int32.toInt i = _)]) ?_
        refine v_goto C 38 dX9_odd_34 (by decide) ?_
        refine v_ret C dX9_odd_38 rfl rfl ?_
        show Int32.toInt (oq2 (i.toInt).toNat) = _
        rcases (show i.toInt = 0 ∨ i.toInt = 1 by omega) with q | q
        · rw [q, if_pos ⟨by unfold okRng; omega, rfl⟩]; show Int32.toInt (oq2 0) = _; exact k0
        · have hne : ¬ a.toInt = b.toInt := fun h => by rw [if_pos h] at kc; omega
          rw [q, if_neg (by omega), if_pos ⟨by unfold okRng; omega, rfl, hne⟩]; show Int32.toInt (oq2 1) = _; exact k1 hne
  · refine b_if_ne C 10 dX9_odd_5 (by decide) (show (0 : Int32).toInt = 0 by decide) (fun c8 => absurd c8 (by decide)) (fun c8 => ?_)
    refine v_iconst (v := (-1)) C dX9_odd_8 (by decide) ?_
    exact v_ret C dX9_odd_9 rfl rfl (show _ by rw [show (-1 : Int32).toInt = -1 by decide, if_neg (by unfold okRng; omega), if_neg (by unfold okRng; omega)])

set_option maxRecDepth 20000 in
theorem d_isRight0 (l : Launch) (G : Gl) (n : Nat) (ad : Nat → Nat) (E : Nat → va_E) (hn : 98 ≤ n) {im : Nat → Int32} (h68 : E 68 = ob 9 (rX9 ad) im) (h32 : im 32 = 0) (w v : Int32)  : CtI l G yX9_isRight cX9_isRight 3 .boolean 1 21 n ad E [.ref (ad 68), .int w, .int v] (fun r E' => r = 0 ∧ (∃ im2 : Nat → Int32, E' 68 = ob 9 (rX9 ad) im2) ∧ ∀ j, j ≠ 68 → E' j = E j) := by
  refine CtI.of (by decide) (Nat.le_of_ble_eq_true rfl) (fun X A C => ?_)
  refine v_sub (lv' := [(0, .ref (ad 68)), (1, .int w), (2, .int v)]) [0, 1, 2] rfl ?_
  refine v_aload_n C 0 dX9_isRight_0 rfl rfl ?_
  refine v_cVi C dX9_isRight_1 lX9_222 mX9_mixOf 68 (by omega) h68 (by decide) rfl (d_mixOf0 l G n ad _ hn h68 h32) ⟨by decide, by decide⟩ rfl (Nat.le_of_ble_eq_true rfl) ⟨Nat.zero_le _, Nat.zero_le _⟩ (fun r3 E1 hq2 => ?_)
  obtain ⟨rfl, hx68, hxO⟩ := hq2
  refine v_bipush (v := (-6)) C dX9_isRight_4 (by decide) ?_
  refine b_icmp_ne C 24 dX9_isRight_6 (by decide) (show (0 : Int32).toInt = 0 by decide) (show ((-6) : Int32).toInt = (-6) by decide) (fun c4 => ?_) (fun c4 => absurd c4 (by decide))
  refine v_iconst (v := 0) C dX9_isRight_24 (by decide) ?_
  exact v_ret C dX9_isRight_25 rfl rfl ⟨rfl, ⟨_, hx68⟩, hxO⟩

set_option maxRecDepth 20000 in
theorem d_mendsOne0 (l : Launch) (G : Gl) (n : Nat) (ad : Nat → Nat) (E : Nat → va_E) (hn : 98 ≤ n) {im : Nat → Int32} (h68 : E 68 = ob 9 (rX9 ad) im) (h88 : E 88 = aI G 6 (fun _ => 0)) (p w v : Int32) (hp : okPr p.toInt)  : CtI l G yX9_mendsOne cX9_mendsOne 7 .boolean 0 0 n ad E [.ref (ad 68), .int p, .int w, .int v] (fun r E' => (r = 0) ∧ E = E') := by
  refine CtI.of (by decide) (Nat.le_of_ble_eq_true rfl) (fun X A C => ?_)
  refine v_sub (lv' := [(0, .ref (ad 68)), (1, .int p), (2, .int w), (3, .int v)]) [0, 1, 2, 3] rfl ?_
  unfold okPr at hp
  refine v_iconst (v := 0) C dX9_mendsOne_0 (by decide) ?_
  refine v_istore (lv' := [(0, .ref (ad 68)), (1, .int p), (2, .int w), (3, .int v), (4, .int 0)]) C [1, 2, 3, 4, 0] dX9_mendsOne_1 (by decide) rfl ?_
  refine v_iload C 4 dX9_mendsOne_3 rfl ?_
  refine v_aload_n C 0 dX9_mendsOne_5 rfl rfl ?_
  refine v_getr C 68 dX9_mendsOne_6 fX9_85 (by omega) h68 rfl rfl ?_
  refine v_iload_n C 1 dX9_mendsOne_9 rfl rfl ?_
  refine v_ald (v := 0) C 88 dX9_mendsOne_10 (by omega) h88 (ti_in (rfl : Int32.toInt p = _) (by omega) (by omega)) (rfl) ?_
  refine b_icmp_ge C 68 dX9_mendsOne_11 (by decide) (show (0 : Int32).toInt = 0 by decide) (show (0 : Int32).toInt = 0 by decide) (fun c1 => ?_) (fun c1 => absurd c1 (by decide))
  refine v_iconst (v := 0) C dX9_mendsOne_68 (by decide) ?_
  exact v_ret C dX9_mendsOne_69 rfl rfl ⟨rfl, rfl⟩

set_option maxRecDepth 20000 in
theorem d_mendsTwo0 (l : Launch) (G : Gl) (n : Nat) (ad : Nat → Nat) (E : Nat → va_E) (hn : 98 ≤ n) {im : Nat → Int32} (h68 : E 68 = ob 9 (rX9 ad) im) (h88 : E 88 = aI G 6 (fun _ => 0)) (p w v : Int32) (hp : okPr p.toInt)  : CtI l G yX9_mendsTwo cX9_mendsTwo 11 .boolean 0 0 n ad E [.ref (ad 68), .int p, .int w, .int v] (fun r E' => (r = 0) ∧ E = E') := by
  refine CtI.of (by decide) (Nat.le_of_ble_eq_true rfl) (fun X A C => ?_)
  refine v_sub (lv' := [(0, .ref (ad 68)), (1, .int p), (2, .int w), (3, .int v)]) [0, 1, 2, 3] rfl ?_
  unfold okPr at hp
  refine v_iconst (v := 0) C dX9_mendsTwo_0 (by decide) ?_
  refine v_istore (lv' := [(0, .ref (ad 68)), (1, .int p), (2, .int w), (3, .int v), (4, .int 0)]) C [1, 2, 3, 4, 0] dX9_mendsTwo_1 (by decide) rfl ?_
  refine v_iload C 4 dX9_mendsTwo_3 rfl ?_
  refine v_aload_n C 0 dX9_mendsTwo_5 rfl rfl ?_
  refine v_getr C 68 dX9_mendsTwo_6 fX9_85 (by omega) h68 rfl rfl ?_
  refine v_iload_n C 1 dX9_mendsTwo_9 rfl rfl ?_
  refine v_ald (v := 0) C 88 dX9_mendsTwo_10 (by omega) h88 (ti_in (rfl : Int32.toInt p = _) (by omega) (by omega)) (rfl) ?_
  refine b_icmp_ge C 138 dX9_mendsTwo_11 (by decide) (show (0 : Int32).toInt = 0 by decide) (show (0 : Int32).toInt = 0 by decide) (fun c1 => ?_) (fun c1 => absurd c1 (by decide))
  refine v_iconst (v := 0) C dX9_mendsTwo_138 (by decide) ?_
  exact v_ret C dX9_mendsTwo_139 rfl rfl ⟨rfl, rfl⟩

set_option maxRecDepth 20000 in
theorem m_mend (l : Launch) (G : Gl) (n : Nat) (ad : Nat → Nat) (E : Nat → va_E) (hn : 98 ≤ n) (hf : FreshM G ad E) (p : Int32) (w : Int32) (v : Int32) (a : Int32) (m : Int32)  : CtI l G yX9_mend cX9_mend 7 .int 3 66 n ad E [.ref (ad 68), .int p, .int w, .int v, .int a, .int m] (fun r E' => r.toInt = if okPr p.toInt ∧ okLaw w.toInt v.toInt ∧ okRch a.toInt m.toInt 100000 then -6 else -1) := by
  refine CtI.of (by decide) (Nat.le_of_ble_eq_true rfl) (fun X A C => ?_)
  obtain ⟨h68, h69, h70, h71, h72, h73, h74, h75, h76, h77, h78, h79, h80, h81, h82, h83, h84, h85, h86, h87, h88, h89, h90, h91, h92, h93, h94, h95, h96, h97⟩ := id hf
  refine v_sub (lv' := [(0, .ref (ad 68)), (1, .int p), (2, .int w), (3, .int v), (4, .int a), (5, .int m)]) [0, 1, 2, 3, 4, 5] rfl ?_
  refine v_iload_n C 1 dX9_mend_0 rfl rfl ?_
  refine v_cSp C dX9_mend_1 lX9_194 mX9_isProgram (d_isProgram l G n ad _ p) ⟨by decide, by decide⟩ rfl (Nat.le_of_ble_eq_true rfl) ⟨Nat.zero_le _, Nat.zero_le _⟩ (fun r1 hp2 => ?_)
  unfold okPr at hp2
  rcases hp2 with ⟨rfl, hp2⟩ | ⟨rfl, hp2⟩
  · refine b_if_eq C 29 dX9_mend_4 (by decide) (show (1 : Int32).toInt = 1 by decide) (fun c3 => absurd c3 (by decide)) (fun c3 => ?_)
    refine v_aload_n C 0 dX9_mend_7 rfl rfl ?_
    refine v_iload_n C 2 dX9_mend_8 rfl rfl ?_
    refine v_iload_n C 3 dX9_mend_9 rfl rfl ?_
    refine v_cVp C dX9_mend_10 lX9_259 mX9_isLaw 68 (by omega) h68 (by decide) rfl (d_isLaw0 l G n ad _ hn hf w v) ⟨by decide, by decide⟩ rfl (Nat.le_of_ble_eq_true rfl) ⟨Nat.zero_le _, Nat.zero_le _⟩ (fun r4 hp5 => ?_)
    unfold okLaw at hp5
    rcases hp5 with ⟨rfl, hp5⟩ | ⟨rfl, hp5⟩
    · refine b_if_eq C 29 dX9_mend_13 (by decide) (show (1 : Int32).toInt = 1 by decide) (fun c6 => absurd c6 (by decide)) (fun c6 => ?_)
      refine v_iload C 4 dX9_mend_16 rfl ?_
      refine v_iload C 5 dX9_mend_18 rfl ?_
      refine v_ldcw C dX9_mend_20 kX9_298 ?_
      refine v_cSp C dX9_mend_23 lX9_283 mX9_isRow (d_isRow l G n ad _ a m 100000 (by decide)) ⟨by decide, by decide⟩ rfl (Nat.le_of_ble_eq_true rfl) ⟨Nat.zero_le _, Nat.zero_le _⟩ (fun r7 hp8 => ?_)
      rw [(show (100000 : Int32).toInt = 100000 by decide)] at hp8
      unfold okRch at hp8
      rcases hp8 with ⟨rfl, hp8⟩ | ⟨rfl, hp8⟩
      · refine b_if_ne C 31 dX9_mend_26 (by decide) (show (1 : Int32).toInt = 1 by decide) (fun c9 => ?_) (fun c9 => absurd c9 (by decide))
        refine v_aload_n C 0 dX9_mend_31 rfl rfl ?_
        refine v_iload C 4 dX9_mend_32 rfl ?_
        refine v_iload C 4 dX9_mend_34 rfl ?_
        refine v_iload C 5 dX9_mend_36 rfl ?_
        refine v_iadd C dX9_mend_38 ?_
        refine v_top (fun x10 ex10 => ?_)
        have hx10 : x10.toInt = (a.toInt + m.toInt) := by rw [ex10]; exact ti_add (rfl : Int32.toInt a = _) (rfl : Int32.toInt m = _) (by omega) (by omega)
        refine v_cVv C dX9_mend_39 lX9_280 mX9_findOdds 68 (by omega) h68 (by decide) rfl (d_findOdds0 l G n ad _ hn h68 rfl h97 a x10 (by omega)) ⟨by decide, by decide⟩ rfl (Nat.le_of_ble_eq_true rfl) ⟨Nat.zero_le _, Nat.zero_le _⟩ (fun E11 hq12 => ?_)
        obtain ⟨im2, oq2, k68, kk, kc, k97, k0, k1, kO⟩ := hq12
        have hE11_88 := (kO 88 (by decide) (by decide)).trans h88
        refine v_aload_n C 0 dX9_mend_42 rfl rfl ?_
        refine v_iload_n C 1 dX9_mend_43 rfl rfl ?_
        refine v_cVv C dX9_mend_44 lX9_219 mX9_take 68 (by omega) k68 (by decide) rfl (d_take0 l G n ad _ hn k68 hE11_88 p (by unfold okPr; omega)) ⟨by decide, by decide⟩ rfl (Nat.le_of_ble_eq_true rfl) ⟨Nat.zero_le _, Nat.zero_le _⟩ (fun E13 hq14 => ?_)
        obtain ⟨hE13_68, oE13⟩ := hq14
        have hE13_88 := (oE13 88 (by decide)).trans hE11_88
        have hE13_97 := (oE13 97 (by decide)).trans k97
        refine v_aload_n C 0 dX9_mend_47 rfl rfl ?_
        refine v_iload_n C 2 dX9_mend_48 rfl rfl ?_
        refine v_iload_n C 3 dX9_mend_49 rfl rfl ?_
        refine v_cVi C dX9_mend_50 lX9_295 mX9_isRight 68 (by omega) hE13_68 (by decide) rfl (d_isRight0 l G n ad _ hn hE13_68 rfl w v) ⟨by decide, by decide⟩ rfl (Nat.le_of_ble_eq_true rfl) ⟨Nat.zero_le _, Nat.zero_le _⟩ (fun r17 E15 hq16 => ?_)
        obtain ⟨rfl, ⟨im3, r68⟩, rO⟩ := hq16
        have hE15_88 := (rO 88 (by decide)).trans hE13_88
        have hE15_97 := (rO 97 (by decide)).trans hE13_97
        refine b_if_eq C 60 dX9_mend_53 (by decide) (show (0 : Int32).toInt = 0 by decide) (fun c18 => ?_) (fun c18 => absurd c18 (by decide))
        refine v_aload_n C 0 dX9_mend_60 rfl rfl ?_
        refine v_iload_n C 1 dX9_mend_61 rfl rfl ?_
        refine v_iload_n C 2 dX9_mend_62 rfl rfl ?_
        refine v_iload_n C 3 dX9_mend_63 rfl rfl ?_
        refine v_cVp C dX9_mend_64 lX9_299 mX9_mendsOne 68 (by omega) r68 (by decide) rfl (d_mendsOne0 l G n ad _ hn r68 hE15_88 p w v (by unfold okPr; omega)) ⟨by decide, by decide⟩ rfl (Nat.le_of_ble_eq_true rfl) ⟨Nat.zero_le _, Nat.zero_le _⟩ (fun r19 hp20 => ?_)
        subst hp20
        refine b_if_eq C 74 dX9_mend_67 (by decide) (show (0 : Int32).toInt = 0 by decide) (fun c21 => ?_) (fun c21 => absurd c21 (by decide))
        refine v_aload_n C 0 dX9_mend_74 rfl rfl ?_
        refine v_iload_n C 1 dX9_mend_75 rfl rfl ?_
        refine v_iload_n C 2 dX9_mend_76 rfl rfl ?_
        refine v_iload_n C 3 dX9_mend_77 rfl rfl ?_
        refine v_cVp C dX9_mend_78 lX9_302 mX9_mendsTwo 68 (by omega) r68 (by decide) rfl (d_mendsTwo0 l G n ad _ hn r68 hE15_88 p w v (by unfold okPr; omega)) ⟨by decide, by decide⟩ rfl (Nat.le_of_ble_eq_true rfl) ⟨Nat.zero_le _, Nat.zero_le _⟩ (fun r22 hp23 => ?_)
        subst hp23
        refine b_if_eq C 88 dX9_mend_81 (by decide) (show (0 : Int32).toInt = 0 by decide) (fun c24 => ?_) (fun c24 => absurd c24 (by decide))
        refine v_bipush (v := (-6)) C dX9_mend_88 (by decide) ?_
        refine v_istore (lv' := [(0, .ref (ad 68)), (1, .int p), (2, .int w), (3, .int v), (4, .int a), (5, .int m), (6, .int (-6))]) C [1, 2, 3, 4, 5, 6, 0] dX9_mend_90 (by decide) rfl ?_
        refine v_iload C 6 dX9_mend_92 rfl ?_
        refine b_if_lt C 101 dX9_mend_94 (by decide) (show ((-6) : Int32).toInt = (-6) by decide) (fun c25 => ?_) (fun c25 => absurd c25 (by decide))
        refine v_iload C 6 dX9_mend_101 rfl ?_
        exact v_ret C dX9_mend_103 rfl rfl (show _ by rw [show ((-6) : Int32).toInt = (-6) by decide]; unfold okPr; unfold okLaw; unfold okRch; (repeat first | rw [if_pos (by omega)] | rw [if_neg (by omega)]); try omega)
      · refine b_if_ne C 31 dX9_mend_26 (by decide) (show (0 : Int32).toInt = 0 by decide) (fun c26 => absurd c26 (by decide)) (fun c26 => ?_)
        refine v_iconst (v := (-1)) C dX9_mend_29 (by decide) ?_
        exact v_ret C dX9_mend_30 rfl rfl (show _ by rw [show ((-1) : Int32).toInt = (-1) by decide]; unfold okPr; unfold okLaw; unfold okRch; (repeat first | rw [if_pos (by omega)] | rw [if_neg (by omega)]); try omega)
    · refine b_if_eq C 29 dX9_mend_13 (by decide) (show (0 : Int32).toInt = 0 by decide) (fun c27 => ?_) (fun c27 => absurd c27 (by decide))
      refine v_iconst (v := (-1)) C dX9_mend_29 (by decide) ?_
      exact v_ret C dX9_mend_30 rfl rfl (show _ by rw [show ((-1) : Int32).toInt = (-1) by decide]; unfold okPr; unfold okLaw; unfold okRch; (repeat first | rw [if_pos (by omega)] | rw [if_neg (by omega)]); try omega)
  · refine b_if_eq C 29 dX9_mend_4 (by decide) (show (0 : Int32).toInt = 0 by decide) (fun c28 => ?_) (fun c28 => absurd c28 (by decide))
    refine v_iconst (v := (-1)) C dX9_mend_29 (by decide) ?_
    exact v_ret C dX9_mend_30 rfl rfl (show _ by rw [show ((-1) : Int32).toInt = (-1) by decide]; unfold okPr; unfold okLaw; unfold okRch; (repeat first | rw [if_pos (by omega)] | rw [if_neg (by omega)]); try omega)

