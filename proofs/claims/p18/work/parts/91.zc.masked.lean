set_option maxRecDepth 20000 in
theorem y_spanEnd (l : Launch) (G : Gl) (n : Nat) (ad : Nat → Nat) (E : Nat → va_E) (hn : 98 ≤ n) {im : Nat → Int32} (h68 : E 68 = ob 9 (rX9 ad) im) {sf : Nat → Int32} (h80 : E 80 = aI G 4005 sf) {sc : Nat → Int32} (h82 : E 82 = aI G 5 sc) {sp : Nat → Int32} {zz j c : Nat} {T : TST} (hzz : zz < 5) (hcT : T.1 = c) (hc8 : c ≤ 800) (hZ : ZR (sc zz).toInt (shz sf zz) (shz sp zz) T) (hok : okT 69300000 T) (z : Int32) (i : Int32) (hz : z.toInt = (zz : Int)) (hj : i.toInt = (j : Int)) (hjc : j ≤ c) : CtI l G yX9_spanEnd cX9_spanEnd 4 .int 0 0 (n) ad E [.ref (ad 68), .int z, .int i] (fun r E' => (r.toInt = enT T j - 1) ∧ E = E') := by
  refine CtI.of (by decide) (Nat.le_of_ble_eq_true rfl) (fun X A C => ?_)
  refine v_sub (lv' := [(0, .ref (ad 68)), (1, .int z), (2, .int i)]) [0, 1, 2] rfl ?_
  have hsc : (sc zz).toInt = (c : Int) := by have := hZ.1; omega
  refine v_iload_n C 2 dX9_spanEnd_0 rfl rfl ?_
  refine v_aload_n C 0 dX9_spanEnd_1 rfl rfl ?_
  refine v_getr C 68 dX9_spanEnd_2 fX9_67 (by omega) h68 rfl rfl ?_
  refine v_iload_n C 1 dX9_spanEnd_5 rfl rfl ?_
  refine v_ald (v := sc zz) C 82 dX9_spanEnd_6 (by omega) h82 (ti_in hz (by omega) (by omega)) (by rw [ti_cl hz, show Int.toNat (zz : Int) = zz by omega]) ?_
  refine b_icmp_ne C 15 dX9_spanEnd_7 (by decide) hj hsc (fun c1 => ?_) (fun c1 => ?_)
  · refine v_aload_n C 0 dX9_spanEnd_15 rfl rfl ?_
    refine v_getr C 68 dX9_spanEnd_16 fX9_61 (by omega) h68 rfl rfl ?_
    refine v_sipush (v := 801) C dX9_spanEnd_19 (by decide) ?_
    refine v_iload_n C 1 dX9_spanEnd_22 rfl rfl ?_
    refine v_imul C dX9_spanEnd_23 ?_
    refine v_top (fun x2 ex2 => ?_)
    have hx2 : x2.toInt = (801 * (zz : Int)) := by rw [ex2]; exact ti_mul (show (801 : Int32).toInt = 801 by decide) hz (by omega) (by omega)
    refine v_iload_n C 2 dX9_spanEnd_24 rfl rfl ?_
    refine v_iadd C dX9_spanEnd_25 ?_
    refine v_top (fun x3 ex3 => ?_)
    have hx3 : x3.toInt = ((801 * (zz : Int)) + (j : Int)) := by rw [ex3]; exact ti_add hx2 hj (by omega) (by omega)
    refine v_iconst (v := 1) C dX9_spanEnd_26 (by decide) ?_
    refine v_iadd C dX9_spanEnd_27 ?_
    refine v_top (fun x4 ex4 => ?_)
    have hx4 : x4.toInt = (((801 * (zz : Int)) + (j : Int)) + 1) := by rw [ex4]; exact ti_add hx3 (show (1 : Int32).toInt = 1 by decide) (by omega) (by omega)
    refine v_ald (v := sf (801 * zz + (j + 1))) C 80 dX9_spanEnd_28 (by omega) h80 (ti_in hx4 (by omega) (by omega)) (by rw [ti_cl hx4, show Int.toNat (((801 * (zz : Int)) + (j : Int)) + 1) = 801 * zz + (j + 1) by omega]) ?_
    have hsf1 := (show (sf (801 * zz + (j + 1))).toInt = T.2.1 (j + 1) from (hZ.2 (j + 1) (by omega)).1)
    have hsb1 := hok.2.1 (j + 1) (by omega)
    refine v_iconst (v := 1) C dX9_spanEnd_29 (by decide) ?_
    refine v_isub C dX9_spanEnd_30 ?_
    refine v_top (fun x5 ex5 => ?_)
    have hx5 : x5.toInt = ((sf (801 * zz + (j + 1))).toInt - 1) := by rw [ex5]; exact ti_sub (rfl : Int32.toInt (sf (801 * zz + (j + 1))) = _) (show (1 : Int32).toInt = 1 by decide) (by omega) (by omega)
    refine v_istore_n (lv' := [(0, .ref (ad 68)), (1, .int z), (2, .int i), (3, .int x5)]) C [1, 2, 3, 0] dX9_spanEnd_31 rfl (by decide) rfl ?_
    refine v_iload_n C 3 dX9_spanEnd_32 rfl rfl ?_
    refine v_ldc C dX9_spanEnd_33 kX9_178 ?_
    refine b_icmp_ge C 42 dX9_spanEnd_35 (by decide) hx5 (show (59999999 : Int32).toInt = 59999999 by decide) (fun c6 => ?_) (fun c6 => ?_)
    · refine v_ldc C dX9_spanEnd_42 kX9_178 ?_
      exact v_ret C dX9_spanEnd_44 rfl rfl ⟨(by have hv0 := (show (59999999 : Int32).toInt = 59999999 by decide); rw [en_mid (by omega)]; unfold mn60; split <;> omega), rfl⟩
    · refine v_iload_n C 3 dX9_spanEnd_38 rfl rfl ?_
      refine v_goto C 44 dX9_spanEnd_39 (by decide) ?_
      exact v_ret C dX9_spanEnd_44 rfl rfl ⟨(by have hv0 := hx5; rw [en_mid (by omega)]; unfold mn60; split <;> omega), rfl⟩
  · refine v_ldc C dX9_spanEnd_10 kX9_178 ?_
    refine v_goto C 31 dX9_spanEnd_12 (by decide) ?_
    refine v_istore_n (lv' := [(0, .ref (ad 68)), (1, .int z), (2, .int i), (3, .int 59999999)]) C [1, 2, 3, 0] dX9_spanEnd_31 rfl (by decide) rfl ?_
    refine v_iload_n C 3 dX9_spanEnd_32 rfl rfl ?_
    refine v_ldc C dX9_spanEnd_33 kX9_178 ?_
    refine b_icmp_ge C 42 dX9_spanEnd_35 (by decide) (show (59999999 : Int32).toInt = 59999999 by decide) (show (59999999 : Int32).toInt = 59999999 by decide) (fun c7 => ?_) (fun c7 => absurd c7 (by decide))
    refine v_ldc C dX9_spanEnd_42 kX9_178 ?_
    exact v_ret C dX9_spanEnd_44 rfl rfl ⟨(by have hv0 := (show (59999999 : Int32).toInt = 59999999 by decide); rw [en_last (by omega)]; omega), rfl⟩

set_option maxRecDepth 20000 in
theorem y_offsetAt (l : Launch) (G : Gl) (n : Nat) (ad : Nat → Nat) (E : Nat → va_E) (hn : 98 ≤ n) {im ic md : Nat → Int32} (hW : MCal G ad E im ic md) {rf rto ron rat rbe rtd rm fv : Nat → Int32} (hR : ZMr G E rf rto ron rat rbe rtd rm fv) {k : Nat} {TT : Nat → TST} (hS : ZMs G E k TT) {zz : Nat} (hzz : zz < k) (hk5 : k ≤ 5) (hTT : ∀ z, z < k → TT z = TTz ic md rf rto ron rat rbe rtd rm fv (im 18).toInt z) (hV : ∀ z, z < k → RZv ic rf rto ron rat rbe rtd rm fv z) {T : TST} (hTe : TT zz = T) {c : Nat} (hcT : T.1 = c) (z : Int32) (m : Int32) (hz : z.toInt = (zz : Int)) : CtI l G yX9_offsetAt cX9_offsetAt 6 .int 4 96 (n) ad E [.ref (ad 68), .int z, .int m] (fun r E' => FQ G ad E E' im ic md k TT ∧ ∃ j : Nat, isTT T m.toInt j ∧ r.toInt = T.2.2 j) := by
  refine CtI.of (by decide) (Nat.le_of_ble_eq_true rfl) (fun X A C => ?_)
  refine v_sub (lv' := [(0, .ref (ad 68)), (1, .int z), (2, .int m)]) [0, 1, 2] rfl ?_
  obtain ⟨hic, hP, h68, h69, h7, mf, h70, hm0, hmc0⟩ := id hW
  obtain ⟨h71, h72, h73, h74, h75, h76, h77, h78⟩ := id hR
  obtain ⟨fz, sf, sp, sc, sw, so, h79, h80, h81, h82, h83, h84, hfz, hsb0, hfd⟩ := id hS
  have hV0 := hV zz hzz
  have hRn : (rm zz).toInt = ((rm zz).toInt.toNat : Int) := by have := hV0.1; omega
  have hR8n : (rm zz).toInt.toNat ≤ 8 := by have := hV0.1; omega
  have h8T : ∀ z, z < k → (TT z).1 ≤ 800 := fun z hz => by rw [hTT z hz]; exact (TTz_ok hP (hV z hz)).2
  have hok : okT 69300000 T := by rw [← hTe, hTT zz hzz]; exact (TTz_ok hP hV0).1
  have hc8 : c ≤ 800 := by have := h8T zz hzz; rw [hTe] at this; omega
  refine v_aload_n C 0 dX9_offsetAt_0 rfl rfl ?_
  refine v_iload_n C 1 dX9_offsetAt_1 rfl rfl ?_
  refine v_cVv C dX9_offsetAt_2 lX9_171 mX9_find 68 (by omega) h68 (by decide) rfl (y_find l G n ad _ hn hW h71 h72 h73 h74 h75 h76 h77 h78 h79 h80 h81 h82 h83 h84 hfz (zz := zz) (R := (rm zz).toInt.toNat) (by omega) hRn hR8n hV0.2.1 hV0.2.2 (LLz_bd hP hV0.2.1) z hz) ⟨by decide, by decide⟩ rfl (Nat.le_of_ble_eq_true rfl) ⟨Nat.zero_le _, Nat.zero_le _⟩ (fun E1 hq2 => ?_)
  obtain ⟨hFQ, sf1, sp1, sc1, g80, g81, g82, hZ1⟩ := find_post hzz hW h79 h80 h81 h82 h83 h84 hfz hsb0 hfd h8T (hTT zz hzz) hq2
  rw [← hTT zz hzz, hTe] at hZ1
  obtain ⟨im1, hi1, hW1, hS1, hO1⟩ := id hFQ
  have g68 := hW1.2.2.1
  have hsc : (sc1 zz).toInt = (c : Int) := by have := hZ1.1; omega
  refine v_iconst (v := 0) C dX9_offsetAt_5 (by decide) ?_
  refine v_istore_n (lv' := [(0, .ref (ad 68)), (1, .int z), (2, .int m), (3, .int 0)]) C [1, 2, 3, 0] dX9_offsetAt_6 rfl (by decide) rfl ?_
  refine v_aload_n C 0 dX9_offsetAt_7 rfl rfl ?_
  refine v_getr C 68 dX9_offsetAt_8 fX9_67 (by omega) g68 rfl rfl ?_
  refine v_iload_n C 1 dX9_offsetAt_11 rfl rfl ?_
  refine v_ald (v := sc1 zz) C 82 dX9_offsetAt_12 (by omega) g82 (ti_in hz (by omega) (by omega)) (by rw [ti_cl hz, show Int.toNat (zz : Int) = zz by omega]) ?_
  refine v_istore (lv' := [(0, .ref (ad 68)), (1, .int z), (2, .int m), (3, .int 0), (4, .int (sc1 zz))]) C [1, 2, 3, 4, 0] dX9_offsetAt_13 (by decide) rfl ?_
  have LP3 : ∀ (t : Nat) (a1 : Nat) (y4 : Int32) (b1 : Nat) (y5 : Int32) (E6 : Nat → va_E), (y4.toInt = (a1 : Int)) → (y5.toInt = (b1 : Int)) → (∀ j, E6 j = E1 j) → (a1 ≤ b1) → (b1 ≤ c) → (∀ i, 1 ≤ i → i ≤ a1 → T.2.1 i ≤ m.toInt) → (∀ i, b1 < i → i ≤ c → m.toInt < T.2.1 i) → (b1 : Int) - (a1 : Int) < (t : Int) → V X G A 6 (QI X G A (n) ad (fun r E' => FQ G ad E E' im ic md k TT ∧ ∃ j : Nat, isTT T m.toInt j ∧ r.toInt = T.2.2 j)) (n) ad 0 0 E6 15 [(0, .ref (ad 68)), (1, .int z), (2, .int m), (3, .int y4), (4, .int y5)] [] := by
    intro t12
    induction t12 with
    | zero => intro a1 y4 b1 y5 E6 hy4 hy5 hfr7 hq8 hq9 hq10 hq11 hm14; exfalso; omega
    | succ t12 ih13 =>
      intro a1 y4 b1 y5 E6 hy4 hy5 hfr7 hq8 hq9 hq10 hq11 hm14
      have hE6_68 := (hfr7 68 ).trans g68
      have hE6_80 := (hfr7 80 ).trans g80
      have hE6_81 := (hfr7 81 ).trans g81
      have hE6_82 := (hfr7 82 ).trans g82
      refine v_iload_n C 3 dX9_offsetAt_15 rfl rfl ?_
      refine v_iload C 4 dX9_offsetAt_16 rfl ?_
      refine b_icmp_ge C 63 dX9_offsetAt_18 (by decide) hy4 hy5 (fun c15 => ?_) (fun c15 => ?_)
      · refine v_aload_n C 0 dX9_offsetAt_63 rfl rfl ?_
        refine v_getr C 68 dX9_offsetAt_64 fX9_64 (by omega) hE6_68 rfl rfl ?_
        refine v_sipush (v := 801) C dX9_offsetAt_67 (by decide) ?_
        refine v_iload_n C 1 dX9_offsetAt_70 rfl rfl ?_
        refine v_imul C dX9_offsetAt_71 ?_
        refine v_top (fun x16 ex16 => ?_)
        have hx16 : x16.toInt = (801 * (zz : Int)) := by rw [ex16]; exact ti_mul (show (801 : Int32).toInt = 801 by decide) hz (by omega) (by omega)
        refine v_iload_n C 3 dX9_offsetAt_72 rfl rfl ?_
        refine v_iadd C dX9_offsetAt_73 ?_
        refine v_top (fun x17 ex17 => ?_)
        have hx17 : x17.toInt = ((801 * (zz : Int)) + (a1 : Int)) := by rw [ex17]; exact ti_add hx16 hy4 (by omega) (by omega)
        refine v_ald (v := sp1 (801 * zz + a1)) C 81 dX9_offsetAt_74 (by omega) hE6_81 (ti_in hx17 (by omega) (by omega)) (by rw [ti_cl hx17, show Int.toNat ((801 * (zz : Int)) + (a1 : Int)) = 801 * zz + a1 by omega]) ?_
        have hEE : E6 = E1 := funext (fun j => hfr7 j)
        exact v_ret C dX9_offsetAt_75 rfl rfl ⟨by rw [hEE]; exact hFQ, a1, ⟨by omega, hq10, fun i h1 h2 => hq11 i (by omega) (by omega)⟩, (hZ1.2 a1 (by omega)).2⟩
      · refine v_iload_n C 3 dX9_offsetAt_21 rfl rfl ?_
        refine v_iload C 4 dX9_offsetAt_22 rfl ?_
        refine v_iadd C dX9_offsetAt_24 ?_
        refine v_top (fun x18 ex18 => ?_)
        have hx18 : x18.toInt = ((a1 : Int) + (b1 : Int)) := by rw [ex18]; exact ti_add hy4 hy5 (by omega) (by omega)
        refine v_iconst (v := 1) C dX9_offsetAt_25 (by decide) ?_
        refine v_iadd C dX9_offsetAt_26 ?_
        refine v_top (fun x19 ex19 => ?_)
        have hx19 : x19.toInt = (((a1 : Int) + (b1 : Int)) + 1) := by rw [ex19]; exact ti_add hx18 (show (1 : Int32).toInt = 1 by decide) (by omega) (by omega)
        refine v_iconst (v := 2) C dX9_offsetAt_27 (by decide) ?_
        refine v_idiv C dX9_offsetAt_28 (by decide) ?_
        refine v_top (fun x20 ex20 => ?_)
        have hx20 : x20.toInt = ((((a1 : Int) + (b1 : Int)) + 1) / 2) := by rw [ex20]; exact ti_div hx19 (show (2 : Int32).toInt = 2 by decide) (by omega) (by omega)
        refine v_istore (lv' := [(0, .ref (ad 68)), (1, .int z), (2, .int m), (3, .int y4), (4, .int y5), (5, .int x20)]) C [1, 2, 3, 4, 5, 0] dX9_offsetAt_29 (by decide) rfl ?_
        refine v_aload_n C 0 dX9_offsetAt_31 rfl rfl ?_
        refine v_getr C 68 dX9_offsetAt_32 fX9_61 (by omega) hE6_68 rfl rfl ?_
        refine v_sipush (v := 801) C dX9_offsetAt_35 (by decide) ?_
        refine v_iload_n C 1 dX9_offsetAt_38 rfl rfl ?_
        refine v_imul C dX9_offsetAt_39 ?_
        refine v_top (fun x21 ex21 => ?_)
        have hx21 : x21.toInt = (801 * (zz : Int)) := by rw [ex21]; exact ti_mul (show (801 : Int32).toInt = 801 by decide) hz (by omega) (by omega)
        refine v_iload C 5 dX9_offsetAt_40 rfl ?_
        refine v_iadd C dX9_offsetAt_42 ?_
        refine v_top (fun x22 ex22 => ?_)
        have hx22 : x22.toInt = ((801 * (zz : Int)) + ((((a1 : Int) + (b1 : Int)) + 1) / 2)) := by rw [ex22]; exact ti_add hx21 hx20 (by omega) (by omega)
        refine v_ald (v := sf1 (801 * zz + (a1 + b1 + 1) / 2)) C 80 dX9_offsetAt_43 (by omega) hE6_80 (ti_in hx22 (by omega) (by omega)) (by rw [ti_cl hx22, show Int.toNat ((801 * (zz : Int)) + ((((a1 : Int) + (b1 : Int)) + 1) / 2)) = 801 * zz + (a1 + b1 + 1) / 2 by omega]) ?_
        have hmid := (show (sf1 (801 * zz + (a1 + b1 + 1) / 2)).toInt = T.2.1 ((a1 + b1 + 1) / 2) from (hZ1.2 ((a1 + b1 + 1) / 2) (by omega)).1)
        refine v_iload_n C 2 dX9_offsetAt_44 rfl rfl ?_
        refine b_icmp_gt C 54 dX9_offsetAt_45 (by decide) (rfl : Int32.toInt (sf1 (801 * zz + (a1 + b1 + 1) / 2)) = _) (rfl : Int32.toInt m = _) (fun c23 => ?_) (fun c23 => ?_)
        · refine v_iload C 5 dX9_offsetAt_54 rfl ?_
          refine v_iconst (v := 1) C dX9_offsetAt_56 (by decide) ?_
          refine v_isub C dX9_offsetAt_57 ?_
          refine v_top (fun x24 ex24 => ?_)
          have hx24 : x24.toInt = (((((a1 : Int) + (b1 : Int)) + 1) / 2) - 1) := by rw [ex24]; exact ti_sub hx20 (show (1 : Int32).toInt = 1 by decide) (by omega) (by omega)
          refine v_istore (lv' := [(0, .ref (ad 68)), (1, .int z), (2, .int m), (3, .int y4), (4, .int x24), (5, .int x20)]) C [1, 2, 3, 4, 0, 5] dX9_offsetAt_58 (by decide) rfl ?_
          refine v_goto C 15 dX9_offsetAt_60 (by decide) ?_
          refine v_sub (lv' := [(0, .ref (ad 68)), (1, .int z), (2, .int m), (3, .int y4), (4, .int x24)]) [0, 1, 2, 3, 4] rfl ?_
          exact ih13 a1 y4 ((a1 + b1 + 1) / 2 - 1) x24 E6 (show Int32.toInt y4 = ((a1 : Nat) : Int) by have := hy4; omega) (show Int32.toInt x24 = (((a1 + b1 + 1) / 2 - 1 : Nat) : Int) by have := hx24; omega) (fun j => (hfr7 j )) (by omega) (by omega) (hq10) (fun i h1 h2 => by have := okT_le hok (i := (a1 + b1 + 1) / 2) (j := i) (by omega) (by omega) (by omega); omega) (by omega)
        · refine v_iload C 5 dX9_offsetAt_48 rfl ?_
          refine v_istore_n (lv' := [(0, .ref (ad 68)), (1, .int z), (2, .int m), (3, .int x20), (4, .int y5), (5, .int x20)]) C [1, 2, 3, 0, 4, 5] dX9_offsetAt_50 rfl (by decide) rfl ?_
          refine v_goto C 60 dX9_offsetAt_51 (by decide) ?_
          refine v_goto C 15 dX9_offsetAt_60 (by decide) ?_
          refine v_sub (lv' := [(0, .ref (ad 68)), (1, .int z), (2, .int m), (3, .int x20), (4, .int y5)]) [0, 1, 2, 3, 4] rfl ?_
          exact ih13 ((a1 + b1 + 1) / 2) x20 b1 y5 E6 (show Int32.toInt x20 = (((a1 + b1 + 1) / 2 : Nat) : Int) by have := hx20; omega) (show Int32.toInt y5 = ((b1 : Nat) : Int) by have := hy5; omega) (fun j => (hfr7 j )) (by omega) (by omega) (fun i h1 h2 => by have := okT_le hok h1 h2 (by omega); omega) (hq11) (by omega)
  exact LP3 100000 0 0 c (sc1 zz) E1 (show Int32.toInt 0 = ((0 : Nat) : Int) by have := (show (0 : Int32).toInt = 0 by decide); omega) (show Int32.toInt (sc1 zz) = ((c : Nat) : Int) by have := hsc; omega) (fun j => rfl) (by omega) (by omega) (fun i h1 h2 => absurd h2 (by omega)) (fun i h1 h2 => absurd h1 (by omega)) (by omega)

set_option maxRecDepth 20000 in
theorem y_momentOf (l : Launch) (G : Gl) (n : Nat) (ad : Nat → Nat) (E : Nat → va_E) (hn : 98 ≤ n) {im ic md : Nat → Int32} (hW : MCal G ad E im ic md) {rf rto ron rat rbe rtd rm fv : Nat → Int32} (hR : ZMr G E rf rto ron rat rbe rtd rm fv) {k : Nat} {TT : Nat → TST} (hS : ZMs G E k TT) {zz : Nat} (hzz : zz < k) (hk5 : k ≤ 5) (hTT : ∀ z, z < k → TT z = TTz ic md rf rto ron rat rbe rtd rm fv (im 18).toInt z) (hV : ∀ z, z < k → RZv ic rf rto ron rat rbe rtd rm fv z) {T : TST} (hTe : TT zz = T) {c : Nat} (hcT : T.1 = c) (z : Int32) (w : Int32) (i : Int32) (hz : z.toInt = (zz : Int)) (hw : 0 ≤ w.toInt ∧ w.toInt ≤ 69400000) : CtI l G yX9_momentOf cX9_momentOf 7 .int 4 96 (n) ad E [.ref (ad 68), .int z, .int w, .int i] (fun r E' => FQ G ad E E' im ic md k TT ∧ (i.toInt < 0 → r.toInt = (cntU T w.toInt (T.1 + 1) : Int)) ∧ (0 ≤ i.toInt → MoT T w.toInt i.toInt r.toInt)) := by
  refine CtI.of (by decide) (Nat.le_of_ble_eq_true rfl) (fun X A C => ?_)
  refine v_sub (lv' := [(0, .ref (ad 68)), (1, .int z), (2, .int w), (3, .int i)]) [0, 1, 2, 3] rfl ?_
  obtain ⟨hic, hP, h68, h69, h7, mf, h70, hm0, hmc0⟩ := id hW
  obtain ⟨h71, h72, h73, h74, h75, h76, h77, h78⟩ := id hR
  obtain ⟨fz, sf, sp, sc, sw, so, h79, h80, h81, h82, h83, h84, hfz, hsb0, hfd⟩ := id hS
  have hV0 := hV zz hzz
  have hRn : (rm zz).toInt = ((rm zz).toInt.toNat : Int) := by have := hV0.1; omega
  have hR8n : (rm zz).toInt.toNat ≤ 8 := by have := hV0.1; omega
  have h8T : ∀ z, z < k → (TT z).1 ≤ 800 := fun z hz => by rw [hTT z hz]; exact (TTz_ok hP (hV z hz)).2
  have hok : okT 69300000 T := by rw [← hTe, hTT zz hzz]; exact (TTz_ok hP hV0).1
  have hc8 : c ≤ 800 := by have := h8T zz hzz; rw [hTe] at this; omega
  refine v_aload_n C 0 dX9_momentOf_0 rfl rfl ?_
  refine v_iload_n C 1 dX9_momentOf_1 rfl rfl ?_
  refine v_cVv C dX9_momentOf_2 lX9_171 mX9_find 68 (by omega) h68 (by decide) rfl (y_find l G n ad _ hn hW h71 h72 h73 h74 h75 h76 h77 h78 h79 h80 h81 h82 h83 h84 hfz (zz := zz) (R := (rm zz).toInt.toNat) (by omega) hRn hR8n hV0.2.1 hV0.2.2 (LLz_bd hP hV0.2.1) z hz) ⟨by decide, by decide⟩ rfl (Nat.le_of_ble_eq_true rfl) ⟨Nat.zero_le _, Nat.zero_le _⟩ (fun E1 hq2 => ?_)
  obtain ⟨hFQ, sf1, sp1, sc1, g80, g81, g82, hZ1⟩ := find_post hzz hW h79 h80 h81 h82 h83 h84 hfz hsb0 hfd h8T (hTT zz hzz) hq2
  rw [← hTT zz hzz, hTe] at hZ1
  obtain ⟨im1, hi1, hW1, hS1, hO1⟩ := id hFQ
  have g68 := hW1.2.2.1
  have hsc : (sc1 zz).toInt = (c : Int) := by have := hZ1.1; omega
  refine v_iconst (v := 0) C dX9_momentOf_5 (by decide) ?_
  refine v_istore (lv' := [(0, .ref (ad 68)), (1, .int z), (2, .int w), (3, .int i), (4, .int 0)]) C [1, 2, 3, 4, 0] dX9_momentOf_6 (by decide) rfl ?_
  refine v_iconst (v := 0) C dX9_momentOf_8 (by decide) ?_
  refine v_istore (lv' := [(0, .ref (ad 68)), (1, .int z), (2, .int w), (3, .int i), (4, .int 0), (5, .int 0)]) C [1, 2, 3, 4, 5, 0] dX9_momentOf_9 (by decide) rfl ?_
  have LP3 : ∀ (t : Nat) (n1 : Nat) (y4 : Int32) (j1 : Nat) (y5 : Int32) (E6 : Nat → va_E), (y4.toInt = (n1 : Int)) → (y5.toInt = (j1 : Int)) → (∀ j, E6 j = E1 j) → (j1 ≤ c + 1) → (n1 = cntU T w.toInt j1) → (n1 ≤ j1) → (¬ (0 ≤ i.toInt ∧ i.toInt < (n1 : Int))) → (c : Int) + 1 - (j1 : Int) < (t : Int) → V X G A 7 (QI X G A (n) ad (fun r E' => FQ G ad E E' im ic md k TT ∧ (i.toInt < 0 → r.toInt = (cntU T w.toInt (T.1 + 1) : Int)) ∧ (0 ≤ i.toInt → MoT T w.toInt i.toInt r.toInt))) (n) ad 0 0 E6 11 [(0, .ref (ad 68)), (1, .int z), (2, .int w), (3, .int i), (4, .int y4), (5, .int y5)] [] := by
    intro t12
    induction t12 with
    | zero => intro n1 y4 j1 y5 E6 hy4 hy5 hfr7 hq8 hq9 hq10 hq11 hm14; exfalso; omega
    | succ t12 ih13 =>
      intro n1 y4 j1 y5 E6 hy4 hy5 hfr7 hq8 hq9 hq10 hq11 hm14
      have hE6_68 := (hfr7 68 ).trans g68
      have hE6_80 := (hfr7 80 ).trans g80
      have hE6_81 := (hfr7 81 ).trans g81
      have hE6_82 := (hfr7 82 ).trans g82
      refine v_iload C 5 dX9_momentOf_11 rfl ?_
      refine v_aload_n C 0 dX9_momentOf_13 rfl rfl ?_
      refine v_getr C 68 dX9_momentOf_14 fX9_67 (by omega) hE6_68 rfl rfl ?_
      refine v_iload_n C 1 dX9_momentOf_17 rfl rfl ?_
      refine v_ald (v := sc1 zz) C 82 dX9_momentOf_18 (by omega) hE6_82 (ti_in hz (by omega) (by omega)) (by rw [ti_cl hz, show Int.toNat (zz : Int) = zz by omega]) ?_
      refine b_icmp_gt C 87 dX9_momentOf_19 (by decide) hy5 hsc (fun c15 => ?_) (fun c15 => ?_)
      · refine v_iload_n C 3 dX9_momentOf_87 rfl rfl ?_
        refine b_if_ge C 96 dX9_momentOf_88 (by decide) (rfl : Int32.toInt i = _) (fun c16 => ?_) (fun c16 => ?_)
        · refine v_iconst (v := (-1)) C dX9_momentOf_96 (by decide) ?_
          have hEE : E6 = E1 := funext (fun j => hfr7 j)
          have hall : n1 = cntU T w.toInt (T.1 + 1) := by have q := hq9; rw [show j1 = T.1 + 1 by omega] at q; exact q
          exact v_ret C dX9_momentOf_97 rfl rfl ⟨by rw [hEE]; exact hFQ, fun q => absurd q (by omega), fun _ => Or.inr ⟨by omega, by decide⟩⟩
        · refine v_iload C 4 dX9_momentOf_91 rfl ?_
          refine v_goto C 97 dX9_momentOf_93 (by decide) ?_
          have hEE : E6 = E1 := funext (fun j => hfr7 j)
          have hall : n1 = cntU T w.toInt (T.1 + 1) := by have q := hq9; rw [show j1 = T.1 + 1 by omega] at q; exact q
          exact v_ret C dX9_momentOf_97 rfl rfl ⟨by rw [hEE]; exact hFQ, fun _ => by rw [hy4, ← hall], fun q => absurd q (by omega)⟩
      · have hsp := (show (sp1 (801 * zz + j1)).toInt = T.2.2 j1 from (hZ1.2 j1 (by omega)).2)
        have hsf := (show (sf1 (801 * zz + j1)).toInt = T.2.1 j1 from (hZ1.2 j1 (by omega)).1)
        have hob := hok.2.2.2 j1 (by omega)
        have hsb := hok.2.1 j1 (by omega)
        refine v_iload_n C 2 dX9_momentOf_22 rfl rfl ?_
        refine v_aload_n C 0 dX9_momentOf_23 rfl rfl ?_
        refine v_getr C 68 dX9_momentOf_24 fX9_64 (by omega) hE6_68 rfl rfl ?_
        refine v_sipush (v := 801) C dX9_momentOf_27 (by decide) ?_
        refine v_iload_n C 1 dX9_momentOf_30 rfl rfl ?_
        refine v_imul C dX9_momentOf_31 ?_
        refine v_top (fun x17 ex17 => ?_)
        have hx17 : x17.toInt = (801 * (zz : Int)) := by rw [ex17]; exact ti_mul (show (801 : Int32).toInt = 801 by decide) hz (by omega) (by omega)
        refine v_iload C 5 dX9_momentOf_32 rfl ?_
        refine v_iadd C dX9_momentOf_34 ?_
        refine v_top (fun x18 ex18 => ?_)
        have hx18 : x18.toInt = ((801 * (zz : Int)) + (j1 : Int)) := by rw [ex18]; exact ti_add hx17 hy5 (by omega) (by omega)
        refine v_ald (v := sp1 (801 * zz + j1)) C 81 dX9_momentOf_35 (by omega) hE6_81 (ti_in hx18 (by omega) (by omega)) (by rw [ti_cl hx18, show Int.toNat ((801 * (zz : Int)) + (j1 : Int)) = 801 * zz + j1 by omega]) ?_
        refine v_isub C dX9_momentOf_36 ?_
        refine v_top (fun x19 ex19 => ?_)
        have hx19 : x19.toInt = (w.toInt - (sp1 (801 * zz + j1)).toInt) := by rw [ex19]; exact ti_sub (rfl : Int32.toInt w = _) (rfl : Int32.toInt (sp1 (801 * zz + j1)) = _) (by omega) (by omega)
        refine v_istore (lv' := [(0, .ref (ad 68)), (1, .int z), (2, .int w), (3, .int i), (4, .int y4), (5, .int y5), (6, .int x19)]) C [1, 2, 3, 4, 5, 6, 0] dX9_momentOf_37 (by decide) rfl ?_
        refine v_iload C 6 dX9_momentOf_39 rfl ?_
        refine v_aload_n C 0 dX9_momentOf_41 rfl rfl ?_
        refine v_getr C 68 dX9_momentOf_42 fX9_61 (by omega) hE6_68 rfl rfl ?_
        refine v_sipush (v := 801) C dX9_momentOf_45 (by decide) ?_
        refine v_iload_n C 1 dX9_momentOf_48 rfl rfl ?_
        refine v_imul C dX9_momentOf_49 ?_
        refine v_top (fun x20 ex20 => ?_)
        have hx20 : x20.toInt = (801 * (zz : Int)) := by rw [ex20]; exact ti_mul (show (801 : Int32).toInt = 801 by decide) hz (by omega) (by omega)
        refine v_iload C 5 dX9_momentOf_50 rfl ?_
        refine v_iadd C dX9_momentOf_52 ?_
        refine v_top (fun x21 ex21 => ?_)
        have hx21 : x21.toInt = ((801 * (zz : Int)) + (j1 : Int)) := by rw [ex21]; exact ti_add hx20 hy5 (by omega) (by omega)
        refine v_ald (v := sf1 (801 * zz + j1)) C 80 dX9_momentOf_53 (by omega) hE6_80 (ti_in hx21 (by omega) (by omega)) (by rw [ti_cl hx21, show Int.toNat ((801 * (zz : Int)) + (j1 : Int)) = 801 * zz + j1 by omega]) ?_
        refine b_icmp_lt C 81 dX9_momentOf_54 (by decide) hx19 (rfl : Int32.toInt (sf1 (801 * zz + j1)) = _) (fun c22 => ?_) (fun c22 => ?_)
        · obtain ⟨x23, ex23⟩ : ∃ y : Int32, y = y5 + 1 := ⟨_, rfl⟩
          have hx23 : x23.toInt = ((j1 : Int) + 1) := by rw [ex23]; exact ti_add hy5 (show (1 : Int32).toInt = 1 by decide) (by omega) (by omega)
          refine v_iinc (v := x23) (lv' := [(0, .ref (ad 68)), (1, .int z), (2, .int w), (3, .int i), (4, .int y4), (5, .int x23), (6, .int x19)]) C 5 [1, 2, 3, 4, 5, 0, 6] dX9_momentOf_81 rfl (ex23.symm) (by decide) rfl ?_
          refine v_goto C 11 dX9_momentOf_84 (by decide) ?_
          refine v_sub (lv' := [(0, .ref (ad 68)), (1, .int z), (2, .int w), (3, .int i), (4, .int y4), (5, .int x23)]) [0, 1, 2, 3, 4, 5] rfl ?_
          exact ih13 n1 y4 (j1 + 1) x23 E6 (show Int32.toInt y4 = ((n1 : Nat) : Int) by have := hy4; omega) (show Int32.toInt x23 = ((j1 + 1 : Nat) : Int) by have := hx23; omega) (fun j => (hfr7 j )) (by omega) (by show n1 = (if T.2.1 j1 ≤ w.toInt - T.2.2 j1 ∧ w.toInt - T.2.2 j1 < enT T j1 then cntU T w.toInt j1 + 1 else cntU T w.toInt j1); rw [if_neg (by omega)]; omega) (by omega) (by omega) (by omega)
        · refine v_iload C 6 dX9_momentOf_57 rfl ?_
          refine v_aload_n C 0 dX9_momentOf_59 rfl rfl ?_
          refine v_iload_n C 1 dX9_momentOf_60 rfl rfl ?_
          refine v_iload C 5 dX9_momentOf_61 rfl ?_
          refine v_cVp C dX9_momentOf_63 lX9_188 mX9_spanEnd 68 (by omega) hE6_68 (by decide) rfl (y_spanEnd l G n ad _ hn hE6_68 hE6_80 hE6_82 (by omega) hcT hc8 hZ1 hok z y5 hz hy5 (by omega)) ⟨by decide, by decide⟩ rfl (Nat.le_of_ble_eq_true rfl) ⟨Nat.zero_le _, Nat.zero_le _⟩ (fun r24 hp25 => ?_)
          refine b_icmp_gt C 81 dX9_momentOf_66 (by decide) hx19 hp25 (fun c26 => ?_) (fun c26 => ?_)
          · obtain ⟨x27, ex27⟩ : ∃ y : Int32, y = y5 + 1 := ⟨_, rfl⟩
            have hx27 : x27.toInt = ((j1 : Int) + 1) := by rw [ex27]; exact ti_add hy5 (show (1 : Int32).toInt = 1 by decide) (by omega) (by omega)
            refine v_iinc (v := x27) (lv' := [(0, .ref (ad 68)), (1, .int z), (2, .int w), (3, .int i), (4, .int y4), (5, .int x27), (6, .int x19)]) C 5 [1, 2, 3, 4, 5, 0, 6] dX9_momentOf_81 rfl (ex27.symm) (by decide) rfl ?_
            refine v_goto C 11 dX9_momentOf_84 (by decide) ?_
            refine v_sub (lv' := [(0, .ref (ad 68)), (1, .int z), (2, .int w), (3, .int i), (4, .int y4), (5, .int x27)]) [0, 1, 2, 3, 4, 5] rfl ?_
            exact ih13 n1 y4 (j1 + 1) x27 E6 (show Int32.toInt y4 = ((n1 : Nat) : Int) by have := hy4; omega) (show Int32.toInt x27 = ((j1 + 1 : Nat) : Int) by have := hx27; omega) (fun j => (hfr7 j )) (by omega) (by show n1 = (if T.2.1 j1 ≤ w.toInt - T.2.2 j1 ∧ w.toInt - T.2.2 j1 < enT T j1 then cntU T w.toInt j1 + 1 else cntU T w.toInt j1); rw [if_neg (by omega)]; omega) (by omega) (by omega) (by omega)
          · refine v_iload C 4 dX9_momentOf_69 rfl ?_
            refine v_iload_n C 3 dX9_momentOf_71 rfl rfl ?_
            refine b_icmp_ne C 78 dX9_momentOf_72 (by decide) hy4 (rfl : Int32.toInt i = _) (fun c28 => ?_) (fun c28 => ?_)
            · obtain ⟨x29, ex29⟩ : ∃ y : Int32, y = y4 + 1 := ⟨_, rfl⟩
              have hx29 : x29.toInt = ((n1 : Int) + 1) := by rw [ex29]; exact ti_add hy4 (show (1 : Int32).toInt = 1 by decide) (by omega) (by omega)
              refine v_iinc (v := x29) (lv' := [(0, .ref (ad 68)), (1, .int z), (2, .int w), (3, .int i), (4, .int x29), (5, .int y5), (6, .int x19)]) C 4 [1, 2, 3, 4, 0, 5, 6] dX9_momentOf_78 rfl (ex29.symm) (by decide) rfl ?_
              obtain ⟨x30, ex30⟩ : ∃ y : Int32, y = y5 + 1 := ⟨_, rfl⟩
              have hx30 : x30.toInt = ((j1 : Int) + 1) := by rw [ex30]; exact ti_add hy5 (show (1 : Int32).toInt = 1 by decide) (by omega) (by omega)
              refine v_iinc (v := x30) (lv' := [(0, .ref (ad 68)), (1, .int z), (2, .int w), (3, .int i), (4, .int x29), (5, .int x30), (6, .int x19)]) C 5 [1, 2, 3, 4, 5, 0, 6] dX9_momentOf_81 rfl (ex30.symm) (by decide) rfl ?_
              refine v_goto C 11 dX9_momentOf_84 (by decide) ?_
              refine v_sub (lv' := [(0, .ref (ad 68)), (1, .int z), (2, .int w), (3, .int i), (4, .int x29), (5, .int x30)]) [0, 1, 2, 3, 4, 5] rfl ?_
              exact ih13 (n1 + 1) x29 (j1 + 1) x30 E6 (show Int32.toInt x29 = ((n1 + 1 : Nat) : Int) by have := hx29; omega) (show Int32.toInt x30 = ((j1 + 1 : Nat) : Int) by have := hx30; omega) (fun j => (hfr7 j )) (by omega) (by show n1 + 1 = (if T.2.1 j1 ≤ w.toInt - T.2.2 j1 ∧ w.toInt - T.2.2 j1 < enT T j1 then cntU T w.toInt j1 + 1 else cntU T w.toInt j1); rw [if_pos (by omega)]; omega) (by omega) (by omega) (by omega)
            · refine v_iload C 6 dX9_momentOf_75 rfl ?_
              have hEE : E6 = E1 := funext (fun j => hfr7 j)
              exact v_ret C dX9_momentOf_77 rfl rfl ⟨by rw [hEE]; exact hFQ, fun q => absurd q (by omega), fun _ => Or.inl ⟨j1, by omega, ⟨by omega, by omega⟩, by omega, by have := hx19; omega⟩⟩
  exact LP3 100000 0 0 0 0 E1 (show Int32.toInt 0 = ((0 : Nat) : Int) by have := (show (0 : Int32).toInt = 0 by decide); omega) (show Int32.toInt 0 = ((0 : Nat) : Int) by have := (show (0 : Int32).toInt = 0 by decide); omega) (fun j => rfl) (by omega) (rfl) (by omega) (by omega) (by omega)

