set_option maxRecDepth 20000 in
theorem c_bitCount (l : Launch) (G : Gl) (n : Nat) (ad : Nat → Nat) (E : Nat → va_E) (x : Int64)  : CtI l G yJ13_bitCount_95d88 cJ13_bitCount_95d88 2 .int 0 0 n ad E [.long x] (fun r E' => (r = bcf x) ∧ E = E') := by
  refine CtI.of (by decide) (Nat.le_of_ble_eq_true rfl) (fun X A C => ?_)
  refine v_sub (lv' := [(0, .long x)]) [0] rfl ?_
  refine v_lload_n C 0 dJ13_bitCount_95d88_0 rfl rfl ?_
  refine v_lload_n C 0 dJ13_bitCount_95d88_1 rfl rfl ?_
  refine v_iconst (v := 1) C dJ13_bitCount_95d88_2 (by decide) ?_
  refine v_lushr C dJ13_bitCount_95d88_3 rfl ?_
  refine v_ldc2 C dJ13_bitCount_95d88_4 kJ13_314 ?_
  refine v_land C dJ13_bitCount_95d88_7 ?_
  refine v_lsub C dJ13_bitCount_95d88_8 ?_
  refine v_topl (fun x1 ex1 => ?_)
  refine v_lstore_n (lv' := [(0, .long x1)]) C [0] dJ13_bitCount_95d88_9 rfl (by decide) rfl ?_
  refine v_lload_n C 0 dJ13_bitCount_95d88_10 rfl rfl ?_
  refine v_ldc2 C dJ13_bitCount_95d88_11 kJ13_316 ?_
  refine v_land C dJ13_bitCount_95d88_14 ?_
  refine v_lload_n C 0 dJ13_bitCount_95d88_15 rfl rfl ?_
  refine v_iconst (v := 2) C dJ13_bitCount_95d88_16 (by decide) ?_
  refine v_lushr C dJ13_bitCount_95d88_17 rfl ?_
  refine v_ldc2 C dJ13_bitCount_95d88_18 kJ13_316 ?_
  refine v_land C dJ13_bitCount_95d88_21 ?_
  refine v_ladd C dJ13_bitCount_95d88_22 ?_
  refine v_topl (fun x2 ex2 => ?_)
  refine v_lstore_n (lv' := [(0, .long x2)]) C [0] dJ13_bitCount_95d88_23 rfl (by decide) rfl ?_
  refine v_lload_n C 0 dJ13_bitCount_95d88_24 rfl rfl ?_
  refine v_lload_n C 0 dJ13_bitCount_95d88_25 rfl rfl ?_
  refine v_iconst (v := 4) C dJ13_bitCount_95d88_26 (by decide) ?_
  refine v_lushr C dJ13_bitCount_95d88_27 rfl ?_
  refine v_ladd C dJ13_bitCount_95d88_28 ?_
  refine v_ldc2 C dJ13_bitCount_95d88_29 kJ13_318 ?_
  refine v_land C dJ13_bitCount_95d88_32 ?_
  refine v_topl (fun x3 ex3 => ?_)
  refine v_lstore_n (lv' := [(0, .long x3)]) C [0] dJ13_bitCount_95d88_33 rfl (by decide) rfl ?_
  refine v_lload_n C 0 dJ13_bitCount_95d88_34 rfl rfl ?_
  refine v_lload_n C 0 dJ13_bitCount_95d88_35 rfl rfl ?_
  refine v_bipush (v := 8) C dJ13_bitCount_95d88_36 (by decide) ?_
  refine v_lushr C dJ13_bitCount_95d88_38 rfl ?_
  refine v_ladd C dJ13_bitCount_95d88_39 ?_
  refine v_topl (fun x4 ex4 => ?_)
  refine v_lstore_n (lv' := [(0, .long x4)]) C [0] dJ13_bitCount_95d88_40 rfl (by decide) rfl ?_
  refine v_lload_n C 0 dJ13_bitCount_95d88_41 rfl rfl ?_
  refine v_lload_n C 0 dJ13_bitCount_95d88_42 rfl rfl ?_
  refine v_bipush (v := 16) C dJ13_bitCount_95d88_43 (by decide) ?_
  refine v_lushr C dJ13_bitCount_95d88_45 rfl ?_
  refine v_ladd C dJ13_bitCount_95d88_46 ?_
  refine v_topl (fun x5 ex5 => ?_)
  refine v_lstore_n (lv' := [(0, .long x5)]) C [0] dJ13_bitCount_95d88_47 rfl (by decide) rfl ?_
  refine v_lload_n C 0 dJ13_bitCount_95d88_48 rfl rfl ?_
  refine v_lload_n C 0 dJ13_bitCount_95d88_49 rfl rfl ?_
  refine v_bipush (v := 32) C dJ13_bitCount_95d88_50 (by decide) ?_
  refine v_lushr C dJ13_bitCount_95d88_52 rfl ?_
  refine v_ladd C dJ13_bitCount_95d88_53 ?_
  refine v_topl (fun x6 ex6 => ?_)
  refine v_lstore_n (lv' := [(0, .long x6)]) C [0] dJ13_bitCount_95d88_54 rfl (by decide) rfl ?_
  refine v_lload_n C 0 dJ13_bitCount_95d88_55 rfl rfl ?_
  refine v_l2i C dJ13_bitCount_95d88_56 rfl ?_
  refine v_bipush (v := 127) C dJ13_bitCount_95d88_57 (by decide) ?_
  refine v_iand C dJ13_bitCount_95d88_59 ?_
  exact v_ret C dJ13_bitCount_95d88_60 rfl rfl ⟨by subst_vars; rfl, rfl⟩

set_option maxRecDepth 20000 in
theorem c_mark0 (l : Launch) (G : Gl) (n : Nat) (ad : Nat → Nat) (E : Nat → va_E) (hq : 48 ≤ n) {iq : Nat → Int32} (hE45 : E 45 = ob 4 (rfs ad [46, 47]) iq) {mk : Nat → Int64} (hE46 : E 46 = aJ G 31251 mk) (m : Int32) {fa D tb_ : Nat} (hfa : (iq 3).toInt = (fa : Int)) (htb : (iq 4).toInt = (tb_ : Int)) (hm : m.toInt = (fa : Int) + (D : Int)) (hmt : fa + D ≤ tb_) (hw : D ≤ 2000000) (hfb : fa < 60000000)  : CtV l G yX4_mark cX4_mark 3 0 0 n ad E [.ref (ad 45), .int m] (fun E' => E' 46 = aJ G 31251 (vp_updL mk (D / 64) (mk (D / 64) ||| pw (D % 64))) ∧ ∀ j, j ≠ 46 → E' j = E j) := by
  refine CtV.of (by decide) (Nat.le_of_ble_eq_true rfl) (fun X A C => ?_)
  refine v_sub (lv' := [(0, .ref (ad 45)), (1, .int m)]) [0, 1] rfl ?_
  refine v_iload_n C 1 dX4_mark_0 rfl rfl ?_
  refine v_aload_n C 0 dX4_mark_1 rfl rfl ?_
  refine v_geti (v := iq 3) C 45 dX4_mark_2 fX4_23 (by omega) hE45 rfl rfl ?_
  refine v_isub C dX4_mark_5 ?_
  refine v_top (fun x1 ex1 => ?_)
  have hx1 : x1.toInt = (((fa : Int) + (D : Int)) - (fa : Int)) := by rw [ex1]; exact ti_sub hm hfa (by omega) (by omega)
  refine v_istore_n (lv' := [(0, .ref (ad 45)), (1, .int m), (2, .int x1)]) C [1, 2, 0] dX4_mark_6 rfl (by decide) rfl ?_
  refine v_iload_n C 2 dX4_mark_7 rfl rfl ?_
  refine b_if_lt C 49 dX4_mark_8 (by decide) hx1 (fun c2 => by exfalso; omega) (fun c2 => ?_)
  refine v_iload_n C 1 dX4_mark_11 rfl rfl ?_
  refine v_aload_n C 0 dX4_mark_12 rfl rfl ?_
  refine v_geti (v := iq 4) C 45 dX4_mark_13 fX4_27 (by omega) hE45 rfl rfl ?_
  refine b_icmp_gt C 49 dX4_mark_16 (by decide) hm htb (fun c3 => by exfalso; omega) (fun c3 => ?_)
  refine v_iload_n C 2 dX4_mark_19 rfl rfl ?_
  refine v_bipush (v := 64) C dX4_mark_20 (by decide) ?_
  refine v_idiv C dX4_mark_22 (by decide) ?_
  refine v_top (fun x4 ex4 => ?_)
  have hx4 : x4.toInt = ((((fa : Int) + (D : Int)) - (fa : Int)) / 64) := by rw [ex4]; exact ti_div hx1 (show (64 : Int32).toInt = 64 by decide) (by omega) (by omega)
  refine v_aload_n C 0 dX4_mark_23 rfl rfl ?_
  refine v_getr C 45 dX4_mark_24 fX4_9 (by omega) hE45 rfl rfl ?_
  refine v_alenJ (v := 31251) C 46 dX4_mark_27 (by omega) hE46 (by decide) ?_
  refine b_icmp_ge C 49 dX4_mark_28 (by decide) hx4 (show (31251 : Int32).toInt = 31251 by decide) (fun c5 => by exfalso; omega) (fun c5 => ?_)
  refine v_aload_n C 0 dX4_mark_31 rfl rfl ?_
  refine v_getr C 45 dX4_mark_32 fX4_9 (by omega) hE45 rfl rfl ?_
  refine v_iload_n C 2 dX4_mark_35 rfl rfl ?_
  refine v_bipush (v := 64) C dX4_mark_36 (by decide) ?_
  refine v_idiv C dX4_mark_38 (by decide) ?_
  refine v_top (fun x6 ex6 => ?_)
  have hx6 : x6.toInt = ((((fa : Int) + (D : Int)) - (fa : Int)) / 64) := by rw [ex6]; exact ti_div hx1 (show (64 : Int32).toInt = 64 by decide) (by omega) (by omega)
  refine v_dup2_11 C dX4_mark_39 rfl rfl ?_
  refine v_jald (v := mk (D / 64)) C 46 dX4_mark_40 (by omega) hE46 (ti_in hx6 (by omega) (by omega)) (by rw [ti_cl hx6, show Int.toNat ((((fa : Int) + (D : Int)) - (fa : Int)) / 64) = D / 64 by omega]) ?_
  refine v_lconst (v := 1) C dX4_mark_41 (by decide) ?_
  refine v_iload_n C 2 dX4_mark_42 rfl rfl ?_
  refine v_bipush (v := 64) C dX4_mark_43 (by decide) ?_
  refine v_irem C dX4_mark_45 (by decide) ?_
  refine v_top (fun x7 ex7 => ?_)
  have hx7 : x7.toInt = ((((fa : Int) + (D : Int)) - (fa : Int)) % 64) := by rw [ex7]; exact ti_rem hx1 (show (64 : Int32).toInt = 64 by decide) (by omega) (by omega)
  have e46 := nI_of_toInt (x := x7) (e := D % 64) (by rw [hx7]; omega) (by omega)
  refine v_lshl C dX4_mark_46 rfl ?_
  refine v_eql (y := pw (D % 64)) (by rw [e46]; rfl) ?_
  refine v_lor C dX4_mark_47 ?_
  refine v_jast C 46 dX4_mark_48 (by omega) hE46 (ti_in hx6 (by omega) (by omega)) (fun E8 hE8_46 oE8 => ?_)
  rw [ti_cl hx6, show Int.toNat ((((fa : Int) + (D : Int)) - (fa : Int)) / 64) = D / 64 by omega] at hE8_46
  have hE8_45 := (oE8 45 (by decide)).trans hE45
  exact v_vret C dX4_mark_49 rfl ⟨hE8_46, oE8⟩

