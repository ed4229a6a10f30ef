def io0 : Nat → Int32 := fun k => if k = 7 then 99999 else 0
def Pf (G : Gl) (ad : Nat → Nat) (E : Nat → va_E) (b : Nat) : Prop := E b = ob 5 (rP ad b) ip0 ∧ E (b + 1) = aI G 10 (fun _ => 0) ∧ E (b + 2) = aI G 10 (fun _ => 0) ∧ E (b + 3) = aI G 10 (fun _ => 0) ∧ E (b + 4) = aI G 10 (fun _ => 0) ∧ E (b + 5) = aI G 8 (fun _ => 0)
theorem Pf.w {G : Gl} {ad : Nat → Nat} {E : Nat → va_E} {b : Nat} (h : Pf G ad E b) : PgW G ad b E 0 := ⟨ip0, _, _, _, _, _, h.1, rfl, by decide, by decide, h.2.1, h.2.2.1, h.2.2.2.1, h.2.2.2.2.1, h.2.2.2.2.2⟩
def Fresh8 (G : Gl) (ad : Nat → Nat) (E : Nat → va_E) : Prop := E 0 = ob 8 (rfs ad [1, 6, 8, 48, 45, 51]) io0 ∧ CalW G ad E ic0 md30 ∧ E 6 = ob 7 (rfs ad [7]) ip0 ∧ E 7 = aQ G 3 5 (fun _ => none) ∧ E 8 = aQ G 4 6 (rfo ad [some 9, some 15, some 21, some 27, some 33, some 39]) ∧ (∀ i, i < 6 → Pf G ad E (9 + 6 * i)) ∧ E 45 = ob 4 (rfs ad [46, 47]) ip0 ∧ E 46 = aJ G 31251 (fun _ => 0) ∧ E 47 = aI G 26002 (fun _ => 0) ∧ E 48 = ob 1 (rfs ad [1, 6, 49, 45]) ip0 ∧ E 49 = ob 2 (rfs ad [1, 6, 50]) ip0 ∧ E 50 = aI G 8 (fun _ => 0) ∧ E 51 = ob 3 (rfs ad [6, 48, 52, 58, 64, 65, 66, 67]) ip0 ∧ Pf G ad E 52 ∧ Pf G ad E 58 ∧ E 64 = aI G 50 (fun _ => 0) ∧ E 65 = aI G 50 (fun _ => 0) ∧ E 66 = aI G 50 (fun _ => 0) ∧ E 67 = aI G 50 (fun _ => 0)

set_option maxRecDepth 20000 in
theorem k_Calendar (l : Launch) (G : Gl) (ad : Nat → Nat) (E : Nat → va_E) (hEb : E 1 = ob 0 (rfo ad [none, none, none, none, none, none, none, none, none]) ip0)  : CtN l G yX0_init cX0_init 2 4 88 4 225 2 6 ad E [.ref (ad 1)] (fun u => (∀ j, j < 2 → u.1 j = ad j) ∧ (∀ j, j < 2 → j ≠ 1 → u.2 j = E j) ∧ CalW G u.1 u.2 ic0 md30) := by
  refine CtN.of (by decide) (Nat.le_of_ble_eq_true rfl) (fun X A hin C => ?_)
  refine v_sub (lv' := [(0, .ref (ad 1))]) [0] rfl ?_
  refine v_aload_n C 0 dX0_init_0 rfl rfl ?_
  refine v_obj C dX0_init_1 lX0_3 oi_inst oi_code ⟨by decide, by decide⟩ ?_
  refine v_aload_n C 0 dX0_init_4 rfl rfl ?_
  refine v_bipush (v := 12) C dX0_init_5 (by decide) ?_
  refine w_newI (N := 12) C dX0_init_7 ac_int (by decide) (by decide) (by decide) (by decide) (by decide) (fun ad1 E2 hAE2 hNE2 oNE2 => ?_)
  have aad1_1 := hAE2 1 (by decide)
  refine v_cast (lv' := [(0, .ref (ad1 1))]) (st' := [.ref (ad1 2), .ref (ad1 1)]) (by rw [aad1_1]) (by rw [aad1_1]) ?_
  have hNE2 : E2 2 = _ := hNE2
  have hE2_1 := (oNE2 1 (by decide)).trans hEb
  rw [rfo_new hAE2 (by first | decide | (simp; done) | (simp; omega))] at hE2_1
  refine v_putr C hin 1 dX0_init_9 fX0_9 (by decide) hE2_1 rfl rfl rfl rfl rfl (fun E3 hE3_1 oE3 => ?_)
  rw [rfo_set (by first | decide | exact Nat.le_of_ble_eq_true rfl)] at hE3_1
  have hE3_2 := (oE3 2 (by decide)).trans hNE2
  have hE3_1 : E3 1 = ob 0 (rfo ad1 [some 2, none, none, none, none, none, none, none, none]) ip0 := hE3_1
  refine v_aload_n C 0 dX0_init_12 rfl rfl ?_
  refine v_bipush (v := 12) C dX0_init_13 (by decide) ?_
  refine w_newI (N := 12) C dX0_init_15 ac_int (by decide) (by decide) (by decide) (by decide) (by decide) (fun ad4 E5 hAE5 hNE5 oNE5 => ?_)
  have aad4_1 := hAE5 1 (by decide)
  refine v_cast (lv' := [(0, .ref (ad4 1))]) (st' := [.ref (ad4 3), .ref (ad4 1)]) (by rw [aad4_1]) (by rw [aad4_1]) ?_
  have hNE5 : E5 3 = _ := hNE5
  have hE5_1 := (oNE5 1 (by decide)).trans hE3_1
  rw [rfo_new hAE5 (by first | decide | (simp; done) | (simp; omega))] at hE5_1
  have hE5_2 := (oNE5 2 (by decide)).trans hE3_2
  refine v_putr C hin 1 dX0_init_17 fX0_15 (by decide) hE5_1 rfl rfl rfl rfl rfl (fun E6 hE6_1 oE6 => ?_)
  rw [rfo_set (by first | decide | exact Nat.le_of_ble_eq_true rfl)] at hE6_1
  have hE6_2 := (oE6 2 (by decide)).trans hE5_2
  have hE6_3 := (oE6 3 (by decide)).trans hNE5
  have hE6_1 : E6 1 = ob 0 (rfo ad4 [some 2, some 3, none, none, none, none, none, none, none]) ip0 := hE6_1
  refine v_aload_n C 0 dX0_init_20 rfl rfl ?_
  refine v_bipush (v := 100) C dX0_init_21 (by decide) ?_
  refine w_newI (N := 100) C dX0_init_23 ac_int (by decide) (by decide) (by decide) (by decide) (by decide) (fun ad7 E8 hAE8 hNE8 oNE8 => ?_)
  have aad7_1 := hAE8 1 (by decide)
  refine v_cast (lv' := [(0, .ref (ad7 1))]) (st' := [.ref (ad7 4), .ref (ad7 1)]) (by rw [aad7_1]) (by rw [aad7_1]) ?_
  have hNE8 : E8 4 = _ := hNE8
  have hE8_1 := (oNE8 1 (by decide)).trans hE6_1
  rw [rfo_new hAE8 (by first | decide | (simp; done) | (simp; omega))] at hE8_1
  have hE8_2 := (oNE8 2 (by decide)).trans hE6_2
  have hE8_3 := (oNE8 3 (by decide)).trans hE6_3
  refine v_putr C hin 1 dX0_init_25 fX0_18 (by decide) hE8_1 rfl rfl rfl rfl rfl (fun E9 hE9_1 oE9 => ?_)
  rw [rfo_set (by first | decide | exact Nat.le_of_ble_eq_true rfl)] at hE9_1
  have hE9_2 := (oE9 2 (by decide)).trans hE8_2
  have hE9_3 := (oE9 3 (by decide)).trans hE8_3
  have hE9_4 := (oE9 4 (by decide)).trans hNE8
  have hE9_1 : E9 1 = ob 0 (rfo ad7 [some 2, some 3, some 4, none, none, none, none, none, none]) ip0 := hE9_1
  refine v_aload_n C 0 dX0_init_28 rfl rfl ?_
  refine v_bipush (v := 101) C dX0_init_29 (by decide) ?_
  refine w_newI (N := 101) C dX0_init_31 ac_int (by decide) (by decide) (by decide) (by decide) (by decide) (fun ad10 E11 hAE11 hNE11 oNE11 => ?_)
  have aad10_1 := hAE11 1 (by decide)
  refine v_cast (lv' := [(0, .ref (ad10 1))]) (st' := [.ref (ad10 5), .ref (ad10 1)]) (by rw [aad10_1]) (by rw [aad10_1]) ?_
  have hNE11 : E11 5 = _ := hNE11
  have hE11_1 := (oNE11 1 (by decide)).trans hE9_1
  rw [rfo_new hAE11 (by first | decide | (simp; done) | (simp; omega))] at hE11_1
  have hE11_2 := (oNE11 2 (by decide)).trans hE9_2
  have hE11_3 := (oNE11 3 (by decide)).trans hE9_3
  have hE11_4 := (oNE11 4 (by decide)).trans hE9_4
  refine v_putr C hin 1 dX0_init_33 fX0_21 (by decide) hE11_1 rfl rfl rfl rfl rfl (fun E12 hE12_1 oE12 => ?_)
  rw [rfo_set (by first | decide | exact Nat.le_of_ble_eq_true rfl)] at hE12_1
  have hE12_2 := (oE12 2 (by decide)).trans hE11_2
  have hE12_3 := (oE12 3 (by decide)).trans hE11_3
  have hE12_4 := (oE12 4 (by decide)).trans hE11_4
  have hE12_5 := (oE12 5 (by decide)).trans hNE11
  have hE12_1 : E12 1 = ob 0 (rfo ad10 [some 2, some 3, some 4, some 5, none, none, none, none, none]) ip0 := hE12_1
  refine v_aload_n C 0 dX0_init_36 rfl rfl ?_
  refine v_iconst (v := 4) C dX0_init_37 (by decide) ?_
  refine v_puti C 1 dX0_init_38 fX0_24 (by decide) hE12_1 rfl rfl rfl rfl (fun E13 hE13_1 oE13 => ?_)
  have hE13_2 := (oE13 2 (by decide)).trans hE12_2
  have hE13_3 := (oE13 3 (by decide)).trans hE12_3
  have hE13_4 := (oE13 4 (by decide)).trans hE12_4
  have hE13_5 := (oE13 5 (by decide)).trans hE12_5
  refine v_aload_n C 0 dX0_init_41 rfl rfl ?_
  refine v_bipush (v := 100) C dX0_init_42 (by decide) ?_
  refine v_puti C 1 dX0_init_44 fX0_28 (by decide) hE13_1 rfl rfl rfl rfl (fun E14 hE14_1 oE14 => ?_)
  have hE14_2 := (oE14 2 (by decide)).trans hE13_2
  have hE14_3 := (oE14 3 (by decide)).trans hE13_3
  have hE14_4 := (oE14 4 (by decide)).trans hE13_4
  have hE14_5 := (oE14 5 (by decide)).trans hE13_5
  refine v_aload_n C 0 dX0_init_47 rfl rfl ?_
  refine v_iconst (v := 1) C dX0_init_48 (by decide) ?_
  refine v_puti C 1 dX0_init_49 fX0_31 (by decide) hE14_1 rfl rfl rfl rfl (fun E15 hE15_1 oE15 => ?_)
  have hE15_2 := (oE15 2 (by decide)).trans hE14_2
  have hE15_3 := (oE15 3 (by decide)).trans hE14_3
  have hE15_4 := (oE15 4 (by decide)).trans hE14_4
  have hE15_5 := (oE15 5 (by decide)).trans hE14_5
  refine v_aload_n C 0 dX0_init_52 rfl rfl ?_
  refine v_bipush (v := 7) C dX0_init_53 (by decide) ?_
  refine v_puti C 1 dX0_init_55 fX0_34 (by decide) hE15_1 rfl rfl rfl rfl (fun E16 hE16_1 oE16 => ?_)
  have hE16_2 := (oE16 2 (by decide)).trans hE15_2
  have hE16_3 := (oE16 3 (by decide)).trans hE15_3
  have hE16_4 := (oE16 4 (by decide)).trans hE15_4
  have hE16_5 := (oE16 5 (by decide)).trans hE15_5
  refine v_aload_n C 0 dX0_init_58 rfl rfl ?_
  refine v_iconst (v := 0) C dX0_init_59 (by decide) ?_
  refine v_puti C 1 dX0_init_60 fX0_37 (by decide) hE16_1 rfl rfl rfl rfl (fun E17 hE17_1 oE17 => ?_)
  have hE17_2 := (oE17 2 (by decide)).trans hE16_2
  have hE17_3 := (oE17 3 (by decide)).trans hE16_3
  have hE17_4 := (oE17 4 (by decide)).trans hE16_4
  have hE17_5 := (oE17 5 (by decide)).trans hE16_5
  refine v_iconst (v := 0) C dX0_init_63 (by decide) ?_
  refine v_istore_n (lv' := [(0, .ref (ad10 1)), (1, .int 0)]) C [1, 0] dX0_init_64 rfl (by decide) rfl ?_
  refine v_iload_n C 1 dX0_init_65 rfl rfl ?_
  refine v_bipush (v := 12) C dX0_init_66 (by decide) ?_
  refine b_icmp_ge C 85 dX0_init_68 (by decide) (show (0 : Int32).toInt = 0 by decide) (show (12 : Int32).toInt = 12 by decide) (fun c18 => absurd c18 (by decide)) (fun c18 => ?_)
  refine v_aload_n C 0 dX0_init_71 rfl rfl ?_
  refine v_getr C 1 dX0_init_72 fX0_9 (by decide) hE17_1 rfl rfl ?_
  refine v_iload_n C 1 dX0_init_75 rfl rfl ?_
  refine v_bipush (v := 30) C dX0_init_76 (by decide) ?_
  refine v_ast C 2 dX0_init_78 (by decide) hE17_2 (ti_in (show (0 : Int32).toInt = 0 by decide) (by omega) (by omega)) (fun E19 hE19_2 oE19 => ?_)
  rw [ti_cl (show (0 : Int32).toInt = 0 by decide), show Int.toNat 0 = 0 by omega] at hE19_2
  have hE19_1 := (oE19 1 (by decide)).trans hE17_1
  have hE19_3 := (oE19 3 (by decide)).trans hE17_3
  have hE19_4 := (oE19 4 (by decide)).trans hE17_4
  have hE19_5 := (oE19 5 (by decide)).trans hE17_5
  refine v_iinc (v := 1) (lv' := [(0, .ref (ad10 1)), (1, .int 1)]) C 1 [1, 0] dX0_init_79 rfl (by decide) (by decide) rfl ?_
  refine v_goto C 65 dX0_init_82 (by decide) ?_
  refine v_iload_n C 1 dX0_init_65 rfl rfl ?_
  refine v_bipush (v := 12) C dX0_init_66 (by decide) ?_
  refine b_icmp_ge C 85 dX0_init_68 (by decide) (show (1 : Int32).toInt = 1 by decide) (show (12 : Int32).toInt = 12 by decide) (fun c20 => absurd c20 (by decide)) (fun c20 => ?_)
  refine v_aload_n C 0 dX0_init_71 rfl rfl ?_
  refine v_getr C 1 dX0_init_72 fX0_9 (by decide) hE19_1 rfl rfl ?_
  refine v_iload_n C 1 dX0_init_75 rfl rfl ?_
  refine v_bipush (v := 30) C dX0_init_76 (by decide) ?_
  refine v_ast C 2 dX0_init_78 (by decide) hE19_2 (ti_in (show (1 : Int32).toInt = 1 by decide) (by omega) (by omega)) (fun E21 hE21_2 oE21 => ?_)
  rw [ti_cl (show (1 : Int32).toInt = 1 by decide), show Int.toNat 1 = 1 by omega] at hE21_2
  have hE21_1 := (oE21 1 (by decide)).trans hE19_1
  have hE21_3 := (oE21 3 (by decide)).trans hE19_3
  have hE21_4 := (oE21 4 (by decide)).trans hE19_4
  have hE21_5 := (oE21 5 (by decide)).trans hE19_5
  refine v_iinc (v := 2) (lv' := [(0, .ref (ad10 1)), (1, .int 2)]) C 1 [1, 0] dX0_init_79 rfl (by decide) (by decide) rfl ?_
  refine v_goto C 65 dX0_init_82 (by decide) ?_
  refine v_iload_n C 1 dX0_init_65 rfl rfl ?_
  refine v_bipush (v := 12) C dX0_init_66 (by decide) ?_
  refine b_icmp_ge C 85 dX0_init_68 (by decide) (show (2 : Int32).toInt = 2 by decide) (show (12 : Int32).toInt = 12 by decide) (fun c22 => absurd c22 (by decide)) (fun c22 => ?_)
  refine v_aload_n C 0 dX0_init_71 rfl rfl ?_
  refine v_getr C 1 dX0_init_72 fX0_9 (by decide) hE21_1 rfl rfl ?_
  refine v_iload_n C 1 dX0_init_75 rfl rfl ?_
  refine v_bipush (v := 30) C dX0_init_76 (by decide) ?_
  refine v_ast C 2 dX0_init_78 (by decide) hE21_2 (ti_in (show (2 : Int32).toInt = 2 by decide) (by omega) (by omega)) (fun E23 hE23_2 oE23 => ?_)
  rw [ti_cl (show (2 : Int32).toInt = 2 by decide), show Int.toNat 2 = 2 by omega] at hE23_2
  have hE23_1 := (oE23 1 (by decide)).trans hE21_1
  have hE23_3 := (oE23 3 (by decide)).trans hE21_3
  have hE23_4 := (oE23 4 (by decide)).trans hE21_4
  have hE23_5 := (oE23 5 (by decide)).trans hE21_5
  refine v_iinc (v := 3) (lv' := [(0, .ref (ad10 1)), (1, .int 3)]) C 1 [1, 0] dX0_init_79 rfl (by decide) (by decide) rfl ?_
  refine v_goto C 65 dX0_init_82 (by decide) ?_
  refine v_iload_n C 1 dX0_init_65 rfl rfl ?_
  refine v_bipush (v := 12) C dX0_init_66 (by decide) ?_
  refine b_icmp_ge C 85 dX0_init_68 (by decide) (show (3 : Int32).toInt = 3 by decide) (show (12 : Int32).toInt = 12 by decide) (fun c24 => absurd c24 (by decide)) (fun c24 => ?_)
  refine v_aload_n C 0 dX0_init_71 rfl rfl ?_
  refine v_getr C 1 dX0_init_72 fX0_9 (by decide) hE23_1 rfl rfl ?_
  refine v_iload_n C 1 dX0_init_75 rfl rfl ?_
  refine v_bipush (v := 30) C dX0_init_76 (by decide) ?_
  refine v_ast C 2 dX0_init_78 (by decide) hE23_2 (ti_in (show (3 : Int32).toInt = 3 by decide) (by omega) (by omega)) (fun E25 hE25_2 oE25 => ?_)
  rw [ti_cl (show (3 : Int32).toInt = 3 by decide), show Int.toNat 3 = 3 by omega] at hE25_2
  have hE25_1 := (oE25 1 (by decide)).trans hE23_1
  have hE25_3 := (oE25 3 (by decide)).trans hE23_3
  have hE25_4 := (oE25 4 (by decide)).trans hE23_4
  have hE25_5 := (oE25 5 (by decide)).trans hE23_5
  refine v_iinc (v := 4) (lv' := [(0, .ref (ad10 1)), (1, .int 4)]) C 1 [1, 0] dX0_init_79 rfl (by decide) (by decide) rfl ?_
  refine v_goto C 65 dX0_init_82 (by decide) ?_
  refine v_iload_n C 1 dX0_init_65 rfl rfl ?_
  refine v_bipush (v := 12) C dX0_init_66 (by decide) ?_
  refine b_icmp_ge C 85 dX0_init_68 (by decide) (show (4 : Int32).toInt = 4 by decide) (show (12 : Int32).toInt = 12 by decide) (fun c26 => absurd c26 (by decide)) (fun c26 => ?_)
  refine v_aload_n C 0 dX0_init_71 rfl rfl ?_
  refine v_getr C 1 dX0_init_72 fX0_9 (by decide) hE25_1 rfl rfl ?_
  refine v_iload_n C 1 dX0_init_75 rfl rfl ?_
  refine v_bipush (v := 30) C dX0_init_76 (by decide) ?_
  refine v_ast C 2 dX0_init_78 (by decide) hE25_2 (ti_in (show (4 : Int32).toInt = 4 by decide) (by omega) (by omega)) (fun E27 hE27_2 oE27 => ?_)
  rw [ti_cl (show (4 : Int32).toInt = 4 by decide), show Int.toNat 4 = 4 by omega] at hE27_2
  have hE27_1 := (oE27 1 (by decide)).trans hE25_1
  have hE27_3 := (oE27 3 (by decide)).trans hE25_3
  have hE27_4 := (oE27 4 (by decide)).trans hE25_4
  have hE27_5 := (oE27 5 (by decide)).trans hE25_5
  refine v_iinc (v := 5) (lv' := [(0, .ref (ad10 1)), (1, .int 5)]) C 1 [1, 0] dX0_init_79 rfl (by decide) (by decide) rfl ?_
  refine v_goto C 65 dX0_init_82 (by decide) ?_
  refine v_iload_n C 1 dX0_init_65 rfl rfl ?_
  refine v_bipush (v := 12) C dX0_init_66 (by decide) ?_
  refine b_icmp_ge C 85 dX0_init_68 (by decide) (show (5 : Int32).toInt = 5 by decide) (show (12 : Int32).toInt = 12 by decide) (fun c28 => absurd c28 (by decide)) (fun c28 => ?_)
  refine v_aload_n C 0 dX0_init_71 rfl rfl ?_
  refine v_getr C 1 dX0_init_72 fX0_9 (by decide) hE27_1 rfl rfl ?_
  refine v_iload_n C 1 dX0_init_75 rfl rfl ?_
  refine v_bipush (v := 30) C dX0_init_76 (by decide) ?_
  refine v_ast C 2 dX0_init_78 (by decide) hE27_2 (ti_in (show (5 : Int32).toInt = 5 by decide) (by omega) (by omega)) (fun E29 hE29_2 oE29 => ?_)
  rw [ti_cl (show (5 : Int32).toInt = 5 by decide), show Int.toNat 5 = 5 by omega] at hE29_2
  have hE29_1 := (oE29 1 (by decide)).trans hE27_1
  have hE29_3 := (oE29 3 (by decide)).trans hE27_3
  have hE29_4 := (oE29 4 (by decide)).trans hE27_4
  have hE29_5 := (oE29 5 (by decide)).trans hE27_5
  refine v_iinc (v := 6) (lv' := [(0, .ref (ad10 1)), (1, .int 6)]) C 1 [1, 0] dX0_init_79 rfl (by decide) (by decide) rfl ?_
  refine v_goto C 65 dX0_init_82 (by decide) ?_
  refine v_iload_n C 1 dX0_init_65 rfl rfl ?_
  refine v_bipush (v := 12) C dX0_init_66 (by decide) ?_
  refine b_icmp_ge C 85 dX0_init_68 (by decide) (show (6 : Int32).toInt = 6 by decide) (show (12 : Int32).toInt = 12 by decide) (fun c30 => absurd c30 (by decide)) (fun c30 => ?_)
  refine v_aload_n C 0 dX0_init_71 rfl rfl ?_
  refine v_getr C 1 dX0_init_72 fX0_9 (by decide) hE29_1 rfl rfl ?_
  refine v_iload_n C 1 dX0_init_75 rfl rfl ?_
  refine v_bipush (v := 30) C dX0_init_76 (by decide) ?_
  refine v_ast C 2 dX0_init_78 (by decide) hE29_2 (ti_in (show (6 : Int32).toInt = 6 by decide) (by omega) (by omega)) (fun E31 hE31_2 oE31 => ?_)
  rw [ti_cl (show (6 : Int32).toInt = 6 by decide), show Int.toNat 6 = 6 by omega] at hE31_2
  have hE31_1 := (oE31 1 (by decide)).trans hE29_1
  have hE31_3 := (oE31 3 (by decide)).trans hE29_3
  have hE31_4 := (oE31 4 (by decide)).trans hE29_4
  have hE31_5 := (oE31 5 (by decide)).trans hE29_5
  refine v_iinc (v := 7) (lv' := [(0, .ref (ad10 1)), (1, .int 7)]) C 1 [1, 0] dX0_init_79 rfl (by decide) (by decide) rfl ?_
  refine v_goto C 65 dX0_init_82 (by decide) ?_
  refine v_iload_n C 1 dX0_init_65 rfl rfl ?_
  refine v_bipush (v := 12) C dX0_init_66 (by decide) ?_
  refine b_icmp_ge C 85 dX0_init_68 (by decide) (show (7 : Int32).toInt = 7 by decide) (show (12 : Int32).toInt = 12 by decide) (fun c32 => absurd c32 (by decide)) (fun c32 => ?_)
  refine v_aload_n C 0 dX0_init_71 rfl rfl ?_
  refine v_getr C 1 dX0_init_72 fX0_9 (by decide) hE31_1 rfl rfl ?_
  refine v_iload_n C 1 dX0_init_75 rfl rfl ?_
  refine v_bipush (v := 30) C dX0_init_76 (by decide) ?_
  refine v_ast C 2 dX0_init_78 (by decide) hE31_2 (ti_in (show (7 : Int32).toInt = 7 by decide) (by omega) (by omega)) (fun E33 hE33_2 oE33 => ?_)
  rw [ti_cl (show (7 : Int32).toInt = 7 by decide), show Int.toNat 7 = 7 by omega] at hE33_2
  have hE33_1 := (oE33 1 (by decide)).trans hE31_1
  have hE33_3 := (oE33 3 (by decide)).trans hE31_3
  have hE33_4 := (oE33 4 (by decide)).trans hE31_4
  have hE33_5 := (oE33 5 (by decide)).trans hE31_5
  refine v_iinc (v := 8) (lv' := [(0, .ref (ad10 1)), (1, .int 8)]) C 1 [1, 0] dX0_init_79 rfl (by decide) (by decide) rfl ?_
  refine v_goto C 65 dX0_init_82 (by decide) ?_
  refine v_iload_n C 1 dX0_init_65 rfl rfl ?_
  refine v_bipush (v := 12) C dX0_init_66 (by decide) ?_
  refine b_icmp_ge C 85 dX0_init_68 (by decide) (show (8 : Int32).toInt = 8 by decide) (show (12 : Int32).toInt = 12 by decide) (fun c34 => absurd c34 (by decide)) (fun c34 => ?_)
  refine v_aload_n C 0 dX0_init_71 rfl rfl ?_
  refine v_getr C 1 dX0_init_72 fX0_9 (by decide) hE33_1 rfl rfl ?_
  refine v_iload_n C 1 dX0_init_75 rfl rfl ?_
  refine v_bipush (v := 30) C dX0_init_76 (by decide) ?_
  refine v_ast C 2 dX0_init_78 (by decide) hE33_2 (ti_in (show (8 : Int32).toInt = 8 by decide) (by omega) (by omega)) (fun E35 hE35_2 oE35 => ?_)
  rw [ti_cl (show (8 : Int32).toInt = 8 by decide), show Int.toNat 8 = 8 by omega] at hE35_2
  have hE35_1 := (oE35 1 (by decide)).trans hE33_1
  have hE35_3 := (oE35 3 (by decide)).trans hE33_3
  have hE35_4 := (oE35 4 (by decide)).trans hE33_4
  have hE35_5 := (oE35 5 (by decide)).trans hE33_5
  refine v_iinc (v := 9) (lv' := [(0, .ref (ad10 1)), (1, .int 9)]) C 1 [1, 0] dX0_init_79 rfl (by decide) (by decide) rfl ?_
  refine v_goto C 65 dX0_init_82 (by decide) ?_
  refine v_iload_n C 1 dX0_init_65 rfl rfl ?_
  refine v_bipush (v := 12) C dX0_init_66 (by decide) ?_
  refine b_icmp_ge C 85 dX0_init_68 (by decide) (show (9 : Int32).toInt = 9 by decide) (show (12 : Int32).toInt = 12 by decide) (fun c36 => absurd c36 (by decide)) (fun c36 => ?_)
  refine v_aload_n C 0 dX0_init_71 rfl rfl ?_
  refine v_getr C 1 dX0_init_72 fX0_9 (by decide) hE35_1 rfl rfl ?_
  refine v_iload_n C 1 dX0_init_75 rfl rfl ?_
  refine v_bipush (v := 30) C dX0_init_76 (by decide) ?_
  refine v_ast C 2 dX0_init_78 (by decide) hE35_2 (ti_in (show (9 : Int32).toInt = 9 by decide) (by omega) (by omega)) (fun E37 hE37_2 oE37 => ?_)
  rw [ti_cl (show (9 : Int32).toInt = 9 by decide), show Int.toNat 9 = 9 by omega] at hE37_2
  have hE37_1 := (oE37 1 (by decide)).trans hE35_1
  have hE37_3 := (oE37 3 (by decide)).trans hE35_3
  have hE37_4 := (oE37 4 (by decide)).trans hE35_4
  have hE37_5 := (oE37 5 (by decide)).trans hE35_5
  refine v_iinc (v := 10) (lv' := [(0, .ref (ad10 1)), (1, .int 10)]) C 1 [1, 0] dX0_init_79 rfl (by decide) (by decide) rfl ?_
  refine v_goto C 65 dX0_init_82 (by decide) ?_
  refine v_iload_n C 1 dX0_init_65 rfl rfl ?_
  refine v_bipush (v := 12) C dX0_init_66 (by decide) ?_
  refine b_icmp_ge C 85 dX0_init_68 (by decide) (show (10 : Int32).toInt = 10 by decide) (show (12 : Int32).toInt = 12 by decide) (fun c38 => absurd c38 (by decide)) (fun c38 => ?_)
  refine v_aload_n C 0 dX0_init_71 rfl rfl ?_
  refine v_getr C 1 dX0_init_72 fX0_9 (by decide) hE37_1 rfl rfl ?_
  refine v_iload_n C 1 dX0_init_75 rfl rfl ?_
  refine v_bipush (v := 30) C dX0_init_76 (by decide) ?_
  refine v_ast C 2 dX0_init_78 (by decide) hE37_2 (ti_in (show (10 : Int32).toInt = 10 by decide) (by omega) (by omega)) (fun E39 hE39_2 oE39 => ?_)
  rw [ti_cl (show (10 : Int32).toInt = 10 by decide), show Int.toNat 10 = 10 by omega] at hE39_2
  have hE39_1 := (oE39 1 (by decide)).trans hE37_1
  have hE39_3 := (oE39 3 (by decide)).trans hE37_3
  have hE39_4 := (oE39 4 (by decide)).trans hE37_4
  have hE39_5 := (oE39 5 (by decide)).trans hE37_5
  refine v_iinc (v := 11) (lv' := [(0, .ref (ad10 1)), (1, .int 11)]) C 1 [1, 0] dX0_init_79 rfl (by decide) (by decide) rfl ?_
  refine v_goto C 65 dX0_init_82 (by decide) ?_
  refine v_iload_n C 1 dX0_init_65 rfl rfl ?_
  refine v_bipush (v := 12) C dX0_init_66 (by decide) ?_
  refine b_icmp_ge C 85 dX0_init_68 (by decide) (show (11 : Int32).toInt = 11 by decide) (show (12 : Int32).toInt = 12 by decide) (fun c40 => absurd c40 (by decide)) (fun c40 => ?_)
  refine v_aload_n C 0 dX0_init_71 rfl rfl ?_
  refine v_getr C 1 dX0_init_72 fX0_9 (by decide) hE39_1 rfl rfl ?_
  refine v_iload_n C 1 dX0_init_75 rfl rfl ?_
  refine v_bipush (v := 30) C dX0_init_76 (by decide) ?_
  refine v_ast C 2 dX0_init_78 (by decide) hE39_2 (ti_in (show (11 : Int32).toInt = 11 by decide) (by omega) (by omega)) (fun E41 hE41_2 oE41 => ?_)
  rw [ti_cl (show (11 : Int32).toInt = 11 by decide), show Int.toNat 11 = 11 by omega] at hE41_2
  have hE41_1 := (oE41 1 (by decide)).trans hE39_1
  have hE41_3 := (oE41 3 (by decide)).trans hE39_3
  have hE41_4 := (oE41 4 (by decide)).trans hE39_4
  have hE41_5 := (oE41 5 (by decide)).trans hE39_5
  refine v_iinc (v := 12) (lv' := [(0, .ref (ad10 1)), (1, .int 12)]) C 1 [1, 0] dX0_init_79 rfl (by decide) (by decide) rfl ?_
  refine v_goto C 65 dX0_init_82 (by decide) ?_
  refine v_iload_n C 1 dX0_init_65 rfl rfl ?_
  refine v_bipush (v := 12) C dX0_init_66 (by decide) ?_
  refine b_icmp_ge C 85 dX0_init_68 (by decide) (show (12 : Int32).toInt = 12 by decide) (show (12 : Int32).toInt = 12 by decide) (fun c42 => ?_) (fun c42 => absurd c42 (by decide))
  refine v_aload_n C 0 dX0_init_85 rfl rfl ?_
  have hC1 : E41 1 = ob 0 (rfs ad10 [2, 3, 4, 5]) ic0 := hE41_1.trans rfl
  have hC2 : E41 2 = aI G 12 md30 := hE41_2
  refine v_cVv C dX0_init_86 lX0_40 mX0_reckon 1 (by decide) hC1 (by decide) rfl (c_reckon l G 6 ad10 _ (by decide) hC1 hC2 hE41_3 hE41_4 hE41_5 cal0 (show Int32.toInt 0 = 0 by decide)) ⟨by decide, by decide⟩ rfl (Nat.le_of_ble_eq_true rfl) ⟨by decide, by decide⟩ (fun E43 hq44 => ?_)
  obtain ⟨ms2, ld2, ys2, hR3, hR4, hR5, hRF, hRo⟩ := hq44
  exact v_nret C dX0_init_89 rfl rfl rfl rfl ⟨(fun j hj => ((hAE11 j (by omega)).trans ((hAE8 j (by omega)).trans ((hAE5 j (by omega)).trans (hAE2 j (by omega)))))), (fun j hj hne => ((hRo j (by omega) (by omega) (by omega)).trans ((oE41 j (by omega)).trans ((oE39 j (by omega)).trans ((oE37 j (by omega)).trans ((oE35 j (by omega)).trans ((oE33 j (by omega)).trans ((oE31 j (by omega)).trans ((oE29 j (by omega)).trans ((oE27 j (by omega)).trans ((oE25 j (by omega)).trans ((oE23 j (by omega)).trans ((oE21 j (by omega)).trans ((oE19 j (by omega)).trans ((oE17 j hne).trans ((oE16 j hne).trans ((oE15 j hne).trans ((oE14 j hne).trans ((oE13 j hne).trans ((oE12 j hne).trans ((oNE11 j (by omega)).trans ((oE9 j hne).trans ((oNE8 j (by omega)).trans ((oE6 j hne).trans ((oNE5 j (by omega)).trans ((oE3 j hne).trans (oNE2 j (by omega)))))))))))))))))))))))))))), ⟨ms2, ld2, ys2, (hRo 1 (by decide) (by decide) (by decide)).trans hC1, (hRo 2 (by decide) (by decide) (by decide)).trans hC2, hR3, hR4, hR5, cal0, hRF⟩⟩

set_option maxRecDepth 20000 in
theorem k_OddHours (l : Launch) (G : Gl) (ad : Nat → Nat) (E : Nat → va_E) (hEb : E 0 = ob 8 (rfo ad [none, none, none, none, none, none, none, none]) ip0)  : CtN l G yX8_init cX8_init 2 5 130 67 58190 1 68 ad E [.ref (ad 0)] (fun u => (∀ j, j < 1 → u.1 j = ad j) ∧ (∀ j, j < 1 → j ≠ 0 → u.2 j = E j) ∧ Fresh8 G u.1 u.2) := by
  refine CtN.of (by decide) (Nat.le_of_ble_eq_true rfl) (fun X A hin C => ?_)
  refine v_sub (lv' := [(0, .ref (ad 0))]) [0] rfl ?_
  refine v_aload_n C 0 dX8_init_0 rfl rfl ?_
  refine v_obj C dX8_init_1 lX8_3 oi_inst oi_code ⟨by decide, by decide⟩ ?_
  refine v_aload_n C 0 dX8_init_4 rfl rfl ?_
  refine w_new (ci := 0) C dX8_init_5 (by decide) qX8_9 zX0 gX0 (fresh_fs (by decide)) (by decide) (by decide) (fun ad1 E2 hAE2 hNE2 oNE2 => ?_)
  have aad1_0 := hAE2 0 (by decide)
  refine v_cast (lv' := [(0, .ref (ad1 0))]) (st' := [.ref (ad1 1), .ref (ad1 0)]) (by rw [aad1_0]) (by rw [aad1_0]) ?_
  rw [← rfo_none (ad := ad1) (k := 9)] at hNE2
  have hNE2 : E2 1 = ob 0 (rfo ad1 [none, none, none, none, none, none, none, none, none]) ip0 := hNE2
  have hE2_0 := (oNE2 0 (by decide)).trans hEb
  rw [rfo_new hAE2 (by first | decide | (simp; done) | (simp; omega))] at hE2_0
  refine v_dup C dX8_init_8 rfl ?_
  refine v_cI C 1 dX8_init_9 lX8_11 mX0_init (k_Calendar l G ad1 E2 hNE2) ⟨by decide, by decide⟩ rfl (Nat.le_of_ble_eq_true rfl) ⟨by decide, by decide⟩ (fun ad3 E4 hq5 => ?_)
  obtain ⟨hAc, hOc, ms1, ld1, ys1, hk1, hk2, hk3, hk4, hk5, _, hkF⟩ := hq5
  dsimp only at hAc hOc hk1 hk2 hk3 hk4 hk5
  have aad3_0 := hAc 0 (by decide)
  have aad3_1 := hAc 1 (by decide)
  refine v_cast (lv' := [(0, .ref (ad3 0))]) (st' := [.ref (ad3 1), .ref (ad3 0)]) (by rw [aad3_0]) (by rw [aad3_0, aad3_1]) ?_
  have hE4_0 := (hOc 0 (by decide) (by decide)).trans hE2_0
  rw [rfo_new hAc (by decide)] at hE4_0
  rw [show rfs ad3 [2, 3, 4, 5] = rfo ad3 [some 2, some 3, some 4, some 5] from (rfo_all (L := [2, 3, 4, 5])).symm] at hk1
  refine v_putr C hin 0 dX8_init_12 fX8_12 (by decide) hE4_0 rfl rfl rfl rfl rfl (fun E6 hE6_0 oE6 => ?_)
  rw [rfo_set (by first | decide | exact Nat.le_of_ble_eq_true rfl)] at hE6_0
  have hE6_1 := (oE6 1 (by decide)).trans hk1
  have hE6_2 := (oE6 2 (by decide)).trans hk2
  have hE6_3 := (oE6 3 (by decide)).trans hk3
  have hE6_4 := (oE6 4 (by decide)).trans hk4
  have hE6_5 := (oE6 5 (by decide)).trans hk5
  have hE6_0 : E6 0 = ob 8 (rfo ad3 [some 1, none, none, none, none, none, none, none]) ip0 := hE6_0
  refine v_aload_n C 0 dX8_init_15 rfl rfl ?_
  refine w_new (ci := 7) C dX8_init_16 (by decide) qX8_16 zX7 gX7 (fresh_fs (by decide)) (by decide) (by decide) (fun ad7 E8 hAE8 hNE8 oNE8 => ?_)
  have aad7_0 := hAE8 0 (by decide)
  refine v_cast (lv' := [(0, .ref (ad7 0))]) (st' := [.ref (ad7 6), .ref (ad7 0)]) (by rw [aad7_0]) (by rw [aad7_0]) ?_
  rw [← rfo_none (ad := ad7) (k := 2)] at hNE8
  have hNE8 : E8 6 = ob 7 (rfo ad7 [none, none]) ip0 := hNE8
  have hE8_0 := (oNE8 0 (by decide)).trans hE6_0
  rw [rfo_new hAE8 (by first | decide | (simp; done) | (simp; omega))] at hE8_0
  have hE8_1 := (oNE8 1 (by decide)).trans hE6_1
  rw [rfo_new hAE8 (by first | decide | (simp; done) | (simp; omega))] at hE8_1
  have hE8_2 := (oNE8 2 (by decide)).trans hE6_2
  have hE8_3 := (oNE8 3 (by decide)).trans hE6_3
  have hE8_4 := (oNE8 4 (by decide)).trans hE6_4
  have hE8_5 := (oNE8 5 (by decide)).trans hE6_5
  refine v_dup C dX8_init_19 rfl ?_
  refine v_cIN C 6 dX8_init_20 (List.mem_of_getElem? (i := 1) rfl) mX7_init (k_Zones l G ad7 E8 hNE8) ⟨by decide, by decide⟩ rfl (Nat.le_of_ble_eq_true rfl) ⟨by decide, by decide⟩ (fun ad9 E10 hq11 => ?_)
  obtain ⟨hA12, hO12, hc12_6, hc12_7⟩ := hq11
  dsimp only at hA12 hO12 hc12_6 hc12_7
  have aad9_0 := hA12 0 (by decide)
  have aad9_6 := hA12 6 (by decide)
  refine v_cast (lv' := [(0, .ref (ad9 0))]) (st' := [.ref (ad9 6), .ref (ad9 0)]) (by rw [aad9_0]) (by rw [aad9_0, aad9_6]) ?_
  have hE10_0 := (hO12 0 (by decide) (by decide)).trans hE8_0
  rw [rfo_new hA12 (by first | decide | (simp; done) | (simp; omega))] at hE10_0
  have hE10_1 := (hO12 1 (by decide) (by decide)).trans hE8_1
  rw [rfo_new hA12 (by first | decide | (simp; done) | (simp; omega))] at hE10_1
  have hE10_2 := (hO12 2 (by decide) (by decide)).trans hE8_2
  have hE10_3 := (hO12 3 (by decide) (by decide)).trans hE8_3
  have hE10_4 := (hO12 4 (by decide) (by decide)).trans hE8_4
  have hE10_5 := (hO12 5 (by decide) (by decide)).trans hE8_5
  refine v_putr C hin 0 dX8_init_23 fX8_19 (by decide) hE10_0 rfl rfl rfl rfl rfl (fun E13 hE13_0 oE13 => ?_)
  rw [rfo_set (by first | decide | exact Nat.le_of_ble_eq_true rfl)] at hE13_0
  have hE13_1 := (oE13 1 (by decide)).trans hE10_1
  have hE13_2 := (oE13 2 (by decide)).trans hE10_2
  have hE13_3 := (oE13 3 (by decide)).trans hE10_3
  have hE13_4 := (oE13 4 (by decide)).trans hE10_4
  have hE13_5 := (oE13 5 (by decide)).trans hE10_5
  have hE13_6 := (oE13 6 (by decide)).trans hc12_6
  have hE13_7 := (oE13 7 (by decide)).trans hc12_7
  have hE13_0 : E13 0 = ob 8 (rfo ad9 [some 1, some 6, none, none, none, none, none, none]) ip0 := hE13_0
  refine v_aload_n C 0 dX8_init_26 rfl rfl ?_
  refine v_bipush (v := 6) C dX8_init_27 (by decide) ?_
  refine w_newAP (N := 6) C dX8_init_29 qX8_23 (by decide) (by decide) (by decide) (by decide) (by decide) (fun ad14 E15 hAE15 hNE15 oNE15 => ?_)
  have aad14_0 := hAE15 0 (by decide)
  refine v_cast (lv' := [(0, .ref (ad14 0))]) (st' := [.ref (ad14 8), .ref (ad14 0)]) (by rw [aad14_0]) (by rw [aad14_0]) ?_
  rw [← rfo_none (ad := ad14) (k := 6)] at hNE15
  have hNE15 : E15 8 = aQ G 4 6 (rfo ad14 [none, none, none, none, none, none]) := hNE15
  have hE15_0 := (oNE15 0 (by decide)).trans hE13_0
  rw [rfo_new hAE15 (by first | decide | (simp; done) | (simp; omega))] at hE15_0
  have hE15_1 := (oNE15 1 (by decide)).trans hE13_1
  rw [rfo_new hAE15 (by first | decide | (simp; done) | (simp; omega))] at hE15_1
  have hE15_2 := (oNE15 2 (by decide)).trans hE13_2
  have hE15_3 := (oNE15 3 (by decide)).trans hE13_3
  have hE15_4 := (oNE15 4 (by decide)).trans hE13_4
  have hE15_5 := (oNE15 5 (by decide)).trans hE13_5
  have hE15_6 := (oNE15 6 (by decide)).trans hE13_6
  rw [rfo_new hAE15 (by first | decide | (simp; done) | (simp; omega))] at hE15_6
  have hE15_7 := (oNE15 7 (by decide)).trans hE13_7
  refine v_putr C hin 0 dX8_init_32 fX8_25 (by decide) hE15_0 rfl rfl rfl rfl rfl (fun E16 hE16_0 oE16 => ?_)
  rw [rfo_set (by first | decide | exact Nat.le_of_ble_eq_true rfl)] at hE16_0
  have hE16_1 := (oE16 1 (by decide)).trans hE15_1
  have hE16_2 := (oE16 2 (by decide)).trans hE15_2
  have hE16_3 := (oE16 3 (by decide)).trans hE15_3
  have hE16_4 := (oE16 4 (by decide)).trans hE15_4
  have hE16_5 := (oE16 5 (by decide)).trans hE15_5
  have hE16_6 := (oE16 6 (by decide)).trans hE15_6
  have hE16_7 := (oE16 7 (by decide)).trans hE15_7
  have hE16_8 := (oE16 8 (by decide)).trans hNE15
  have hE16_0 : E16 0 = ob 8 (rfo ad14 [some 1, some 6, some 8, none, none, none, none, none]) ip0 := hE16_0
  refine v_iconst (v := 0) C dX8_init_35 (by decide) ?_
  refine v_istore_n (lv' := [(0, .ref (ad14 0)), (1, .int 0)]) C [1, 0] dX8_init_36 rfl (by decide) rfl ?_
  refine v_iload_n C 1 dX8_init_37 rfl rfl ?_
  refine v_bipush (v := 6) C dX8_init_38 (by decide) ?_
  refine b_icmp_ge C 62 dX8_init_40 (by decide) (show (0 : Int32).toInt = 0 by decide) (show (6 : Int32).toInt = 6 by decide) (fun c17 => absurd c17 (by decide)) (fun c17 => ?_)
  refine v_aload_n C 0 dX8_init_43 rfl rfl ?_
  refine v_getr C 0 dX8_init_44 fX8_25 (by decide) hE16_0 rfl rfl ?_
  refine v_iload_n C 1 dX8_init_47 rfl rfl ?_
  refine w_new (ci := 5) C dX8_init_48 (by decide) qX8_23 zX5 gX5 (fresh_fs (by decide)) (by decide) (by decide) (fun ad18 E19 hAE19 hNE19 oNE19 => ?_)
  have aad18_0 := hAE19 0 (by decide)
  have aad18_8 := hAE19 8 (by decide)
  refine v_cast (lv' := [(0, .ref (ad18 0)), (1, .int 0)]) (st' := [.ref (ad18 9), .int 0, .ref (ad18 8)]) (by rw [aad18_0]) (by rw [aad18_8]) ?_
  rw [← rfo_none (ad := ad18) (k := 9)] at hNE19
  have hNE19 : E19 9 = ob 5 (rfo ad18 [none, none, none, none, none, none, none, none, none]) ip0 := hNE19
  have hE19_0 := (oNE19 0 (by decide)).trans hE16_0
  rw [rfo_new hAE19 (by first | decide | (simp; done) | (simp; omega))] at hE19_0
  have hE19_1 := (oNE19 1 (by decide)).trans hE16_1
  rw [rfo_new hAE19 (by first | decide | (simp; done) | (simp; omega))] at hE19_1
  have hE19_2 := (oNE19 2 (by decide)).trans hE16_2
  have hE19_3 := (oNE19 3 (by decide)).trans hE16_3
  have hE19_4 := (oNE19 4 (by decide)).trans hE16_4
  have hE19_5 := (oNE19 5 (by decide)).trans hE16_5
  have hE19_6 := (oNE19 6 (by decide)).trans hE16_6
  rw [rfo_new hAE19 (by first | decide | (simp; done) | (simp; omega))] at hE19_6
  have hE19_7 := (oNE19 7 (by decide)).trans hE16_7
  have hE19_8 := (oNE19 8 (by decide)).trans hE16_8
  rw [rfo_new hAE19 (by first | decide | (simp; done) | (simp; omega))] at hE19_8
  refine v_dup C dX8_init_51 rfl ?_
  refine v_cIN C 9 dX8_init_52 (List.mem_of_getElem? (i := 2) rfl) mX5_init (k_Program l G ad18 E19 9 hNE19) ⟨by decide, by decide⟩ rfl (Nat.le_of_ble_eq_true rfl) ⟨by decide, by decide⟩ (fun ad20 E21 hq22 => ?_)
  obtain ⟨hA23, hO23, hc23_9, hc23_10, hc23_11, hc23_12, hc23_13, hc23_14⟩ := hq22
  dsimp only at hA23 hO23 hc23_9 hc23_10 hc23_11 hc23_12 hc23_13 hc23_14
  have aad20_0 := hA23 0 (by decide)
  have aad20_8 := hA23 8 (by decide)
  have aad20_9 := hA23 9 (by decide)
  refine v_cast (lv' := [(0, .ref (ad20 0)), (1, .int 0)]) (st' := [.ref (ad20 9), .int 0, .ref (ad20 8)]) (by rw [aad20_0]) (by rw [aad20_8, aad20_9]) ?_
  have hE21_0 := (hO23 0 (by decide) (by decide)).trans hE19_0
  rw [rfo_new hA23 (by first | decide | (simp; done) | (simp; omega))] at hE21_0
  have hE21_1 := (hO23 1 (by decide) (by decide)).trans hE19_1
  rw [rfo_new hA23 (by first | decide | (simp; done) | (simp; omega))] at hE21_1
  have hE21_2 := (hO23 2 (by decide) (by decide)).trans hE19_2
  have hE21_3 := (hO23 3 (by decide) (by decide)).trans hE19_3
  have hE21_4 := (hO23 4 (by decide) (by decide)).trans hE19_4
  have hE21_5 := (hO23 5 (by decide) (by decide)).trans hE19_5
  have hE21_6 := (hO23 6 (by decide) (by decide)).trans hE19_6
  rw [rfo_new hA23 (by first | decide | (simp; done) | (simp; omega))] at hE21_6
  have hE21_7 := (hO23 7 (by decide) (by decide)).trans hE19_7
  have hE21_8 := (hO23 8 (by decide) (by decide)).trans hE19_8
  rw [rfo_new hA23 (by first | decide | (simp; done) | (simp; omega))] at hE21_8
  refine v_astP C 8 9 dX8_init_55 (by decide) hE21_8 (by decide) hc23_9 (by decide) rfl (ti_in (show (0 : Int32).toInt = 0 by decide) (by omega) (by omega)) (fun E24 hE24_8 oE24 => ?_)
  rw [ti_cl (show (0 : Int32).toInt = 0 by decide), show Int.toNat 0 = 0 by omega, rfo_set (by decide)] at hE24_8
  have hE24_0 := (oE24 0 (by decide)).trans hE21_0
  have hE24_1 := (oE24 1 (by decide)).trans hE21_1
  have hE24_2 := (oE24 2 (by decide)).trans hE21_2
  have hE24_3 := (oE24 3 (by decide)).trans hE21_3
  have hE24_4 := (oE24 4 (by decide)).trans hE21_4
  have hE24_5 := (oE24 5 (by decide)).trans hE21_5
  have hE24_6 := (oE24 6 (by decide)).trans hE21_6
  have hE24_7 := (oE24 7 (by decide)).trans hE21_7
  have hE24_9 := (oE24 9 (by decide)).trans hc23_9
  have hE24_10 := (oE24 10 (by decide)).trans hc23_10
  have hE24_11 := (oE24 11 (by decide)).trans hc23_11
  have hE24_12 := (oE24 12 (by decide)).trans hc23_12
  have hE24_13 := (oE24 13 (by decide)).trans hc23_13
  have hE24_14 := (oE24 14 (by decide)).trans hc23_14
  have hE24_8 : E24 8 = aQ G 4 6 (rfo ad20 [some 9, none, none, none, none, none]) := hE24_8
  refine v_iinc (v := 1) (lv' := [(0, .ref (ad20 0)), (1, .int 1)]) C 1 [1, 0] dX8_init_56 rfl (by decide) (by decide) rfl ?_
  refine v_goto C 37 dX8_init_59 (by decide) ?_
  refine v_iload_n C 1 dX8_init_37 rfl rfl ?_
  refine v_bipush (v := 6) C dX8_init_38 (by decide) ?_
  refine b_icmp_ge C 62 dX8_init_40 (by decide) (show (1 : Int32).toInt = 1 by decide) (show (6 : Int32).toInt = 6 by decide) (fun c25 => absurd c25 (by decide)) (fun c25 => ?_)
  refine v_aload_n C 0 dX8_init_43 rfl rfl ?_
  refine v_getr C 0 dX8_init_44 fX8_25 (by decide) hE24_0 rfl rfl ?_
  refine v_iload_n C 1 dX8_init_47 rfl rfl ?_
  refine w_new (ci := 5) C dX8_init_48 (by decide) qX8_23 zX5 gX5 (fresh_fs (by decide)) (by decide) (by decide) (fun ad26 E27 hAE27 hNE27 oNE27 => ?_)
  have aad26_0 := hAE27 0 (by decide)
  have aad26_8 := hAE27 8 (by decide)
  refine v_cast (lv' := [(0, .ref (ad26 0)), (1, .int 1)]) (st' := [.ref (ad26 15), .int 1, .ref (ad26 8)]) (by rw [aad26_0]) (by rw [aad26_8]) ?_
  rw [← rfo_none (ad := ad26) (k := 9)] at hNE27
  have hNE27 : E27 15 = ob 5 (rfo ad26 [none, none, none, none, none, none, none, none, none]) ip0 := hNE27
  have hE27_0 := (oNE27 0 (by decide)).trans hE24_0
  rw [rfo_new hAE27 (by first | decide | (simp; done) | (simp; omega))] at hE27_0
  have hE27_1 := (oNE27 1 (by decide)).trans hE24_1
  rw [rfo_new hAE27 (by first | decide | (simp; done) | (simp; omega))] at hE27_1
  have hE27_2 := (oNE27 2 (by decide)).trans hE24_2
  have hE27_3 := (oNE27 3 (by decide)).trans hE24_3
  have hE27_4 := (oNE27 4 (by decide)).trans hE24_4
  have hE27_5 := (oNE27 5 (by decide)).trans hE24_5
  have hE27_6 := (oNE27 6 (by decide)).trans hE24_6
  rw [rfo_new hAE27 (by first | decide | (simp; done) | (simp; omega))] at hE27_6
  have hE27_7 := (oNE27 7 (by decide)).trans hE24_7
  have hE27_8 := (oNE27 8 (by decide)).trans hE24_8
  rw [rfo_new hAE27 (by first | decide | (simp; done) | (simp; omega))] at hE27_8
  have hE27_9 := (oNE27 9 (by decide)).trans hE24_9
  rw [rfo_new hAE27 (by first | decide | (simp; done) | (simp; omega))] at hE27_9
  have hE27_10 := (oNE27 10 (by decide)).trans hE24_10
  have hE27_11 := (oNE27 11 (by decide)).trans hE24_11
  have hE27_12 := (oNE27 12 (by decide)).trans hE24_12
  have hE27_13 := (oNE27 13 (by decide)).trans hE24_13
  have hE27_14 := (oNE27 14 (by decide)).trans hE24_14
  refine v_dup C dX8_init_51 rfl ?_
  refine v_cIN C 15 dX8_init_52 (List.mem_of_getElem? (i := 2) rfl) mX5_init (k_Program l G ad26 E27 15 hNE27) ⟨by decide, by decide⟩ rfl (Nat.le_of_ble_eq_true rfl) ⟨by decide, by decide⟩ (fun ad28 E29 hq30 => ?_)
  obtain ⟨hA31, hO31, hc31_15, hc31_16, hc31_17, hc31_18, hc31_19, hc31_20⟩ := hq30
  dsimp only at hA31 hO31 hc31_15 hc31_16 hc31_17 hc31_18 hc31_19 hc31_20
  have aad28_0 := hA31 0 (by decide)
  have aad28_15 := hA31 15 (by decide)
  have aad28_8 := hA31 8 (by decide)
  refine v_cast (lv' := [(0, .ref (ad28 0)), (1, .int 1)]) (st' := [.ref (ad28 15), .int 1, .ref (ad28 8)]) (by rw [aad28_0]) (by rw [aad28_15, aad28_8]) ?_
  have hE29_0 := (hO31 0 (by decide) (by decide)).trans hE27_0
  rw [rfo_new hA31 (by first | decide | (simp; done) | (simp; omega))] at hE29_0
  have hE29_1 := (hO31 1 (by decide) (by decide)).trans hE27_1
  rw [rfo_new hA31 (by first | decide | (simp; done) | (simp; omega))] at hE29_1
  have hE29_2 := (hO31 2 (by decide) (by decide)).trans hE27_2
  have hE29_3 := (hO31 3 (by decide) (by decide)).trans hE27_3
  have hE29_4 := (hO31 4 (by decide) (by decide)).trans hE27_4
  have hE29_5 := (hO31 5 (by decide) (by decide)).trans hE27_5
  have hE29_6 := (hO31 6 (by decide) (by decide)).trans hE27_6
  rw [rfo_new hA31 (by first | decide | (simp; done) | (simp; omega))] at hE29_6
  have hE29_7 := (hO31 7 (by decide) (by decide)).trans hE27_7
  have hE29_8 := (hO31 8 (by decide) (by decide)).trans hE27_8
  rw [rfo_new hA31 (by first | decide | (simp; done) | (simp; omega))] at hE29_8
  have hE29_9 := (hO31 9 (by decide) (by decide)).trans hE27_9
  rw [rfo_new hA31 (by first | decide | (simp; done) | (simp; omega))] at hE29_9
  have hE29_10 := (hO31 10 (by decide) (by decide)).trans hE27_10
  have hE29_11 := (hO31 11 (by decide) (by decide)).trans hE27_11
  have hE29_12 := (hO31 12 (by decide) (by decide)).trans hE27_12
  have hE29_13 := (hO31 13 (by decide) (by decide)).trans hE27_13
  have hE29_14 := (hO31 14 (by decide) (by decide)).trans hE27_14
  refine v_astP C 8 15 dX8_init_55 (by decide) hE29_8 (by decide) hc31_15 (by decide) rfl (ti_in (show (1 : Int32).toInt = 1 by decide) (by omega) (by omega)) (fun E32 hE32_8 oE32 => ?_)
  rw [ti_cl (show (1 : Int32).toInt = 1 by decide), show Int.toNat 1 = 1 by omega, rfo_set (by decide)] at hE32_8
  have hE32_0 := (oE32 0 (by decide)).trans hE29_0
  have hE32_1 := (oE32 1 (by decide)).trans hE29_1
  have hE32_2 := (oE32 2 (by decide)).trans hE29_2
  have hE32_3 := (oE32 3 (by decide)).trans hE29_3
  have hE32_4 := (oE32 4 (by decide)).trans hE29_4
  have hE32_5 := (oE32 5 (by decide)).trans hE29_5
  have hE32_6 := (oE32 6 (by decide)).trans hE29_6
  have hE32_7 := (oE32 7 (by decide)).trans hE29_7
  have hE32_9 := (oE32 9 (by decide)).trans hE29_9
  have hE32_10 := (oE32 10 (by decide)).trans hE29_10
  have hE32_11 := (oE32 11 (by decide)).trans hE29_11
  have hE32_12 := (oE32 12 (by decide)).trans hE29_12
  have hE32_13 := (oE32 13 (by decide)).trans hE29_13
  have hE32_14 := (oE32 14 (by decide)).trans hE29_14
  have hE32_15 := (oE32 15 (by decide)).trans hc31_15
  have hE32_16 := (oE32 16 (by decide)).trans hc31_16
  have hE32_17 := (oE32 17 (by decide)).trans hc31_17
  have hE32_18 := (oE32 18 (by decide)).trans hc31_18
  have hE32_19 := (oE32 19 (by decide)).trans hc31_19
  have hE32_20 := (oE32 20 (by decide)).trans hc31_20
  have hE32_8 : E32 8 = aQ G 4 6 (rfo ad28 [some 9, some 15, none, none, none, none]) := hE32_8
  refine v_iinc (v := 2) (lv' := [(0, .ref (ad28 0)), (1, .int 2)]) C 1 [1, 0] dX8_init_56 rfl (by decide) (by decide) rfl ?_
  refine v_goto C 37 dX8_init_59 (by decide) ?_
  refine v_iload_n C 1 dX8_init_37 rfl rfl ?_
  refine v_bipush (v := 6) C dX8_init_38 (by decide) ?_
  refine b_icmp_ge C 62 dX8_init_40 (by decide) (show (2 : Int32).toInt = 2 by decide) (show (6 : Int32).toInt = 6 by decide) (fun c33 => absurd c33 (by decide)) (fun c33 => ?_)
  refine v_aload_n C 0 dX8_init_43 rfl rfl ?_
  refine v_getr C 0 dX8_init_44 fX8_25 (by decide) hE32_0 rfl rfl ?_
  refine v_iload_n C 1 dX8_init_47 rfl rfl ?_
  refine w_new (ci := 5) C dX8_init_48 (by decide) qX8_23 zX5 gX5 (fresh_fs (by decide)) (by decide) (by decide) (fun ad34 E35 hAE35 hNE35 oNE35 => ?_)
  have aad34_0 := hAE35 0 (by decide)
  have aad34_8 := hAE35 8 (by decide)
  refine v_cast (lv' := [(0, .ref (ad34 0)), (1, .int 2)]) (st' := [.ref (ad34 21), .int 2, .ref (ad34 8)]) (by rw [aad34_0]) (by rw [aad34_8]) ?_
  rw [← rfo_none (ad := ad34) (k := 9)] at hNE35
  have hNE35 : E35 21 = ob 5 (rfo ad34 [none, none, none, none, none, none, none, none, none]) ip0 := hNE35
  have hE35_0 := (oNE35 0 (by decide)).trans hE32_0
  rw [rfo_new hAE35 (by first | decide | (simp; done) | (simp; omega))] at hE35_0
  have hE35_1 := (oNE35 1 (by decide)).trans hE32_1
  rw [rfo_new hAE35 (by first | decide | (simp; done) | (simp; omega))] at hE35_1
  have hE35_2 := (oNE35 2 (by decide)).trans hE32_2
  have hE35_3 := (oNE35 3 (by decide)).trans hE32_3
  have hE35_4 := (oNE35 4 (by decide)).trans hE32_4
  have hE35_5 := (oNE35 5 (by decide)).trans hE32_5
  have hE35_6 := (oNE35 6 (by decide)).trans hE32_6
  rw [rfo_new hAE35 (by first | decide | (simp; done) | (simp; omega))] at hE35_6
  have hE35_7 := (oNE35 7 (by decide)).trans hE32_7
  have hE35_8 := (oNE35 8 (by decide)).trans hE32_8
  rw [rfo_new hAE35 (by first | decide | (simp; done) | (simp; omega))] at hE35_8
  have hE35_9 := (oNE35 9 (by decide)).trans hE32_9
  rw [rfo_new hAE35 (by first | decide | (simp; done) | (simp; omega))] at hE35_9
  have hE35_10 := (oNE35 10 (by decide)).trans hE32_10
  have hE35_11 := (oNE35 11 (by decide)).trans hE32_11
  have hE35_12 := (oNE35 12 (by decide)).trans hE32_12
  have hE35_13 := (oNE35 13 (by decide)).trans hE32_13
  have hE35_14 := (oNE35 14 (by decide)).trans hE32_14
  have hE35_15 := (oNE35 15 (by decide)).trans hE32_15
  rw [rfo_new hAE35 (by first | decide | (simp; done) | (simp; omega))] at hE35_15
  have hE35_16 := (oNE35 16 (by decide)).trans hE32_16
  have hE35_17 := (oNE35 17 (by decide)).trans hE32_17
  have hE35_18 := (oNE35 18 (by decide)).trans hE32_18
  have hE35_19 := (oNE35 19 (by decide)).trans hE32_19
  have hE35_20 := (oNE35 20 (by decide)).trans hE32_20
  refine v_dup C dX8_init_51 rfl ?_
  refine v_cIN C 21 dX8_init_52 (List.mem_of_getElem? (i := 2) rfl) mX5_init (k_Program l G ad34 E35 21 hNE35) ⟨by decide, by decide⟩ rfl (Nat.le_of_ble_eq_true rfl) ⟨by decide, by decide⟩ (fun ad36 E37 hq38 => ?_)
  obtain ⟨hA39, hO39, hc39_21, hc39_22, hc39_23, hc39_24, hc39_25, hc39_26⟩ := hq38
  dsimp only at hA39 hO39 hc39_21 hc39_22 hc39_23 hc39_24 hc39_25 hc39_26
  have aad36_0 := hA39 0 (by decide)
  have aad36_21 := hA39 21 (by decide)
  have aad36_8 := hA39 8 (by decide)
  refine v_cast (lv' := [(0, .ref (ad36 0)), (1, .int 2)]) (st' := [.ref (ad36 21), .int 2, .ref (ad36 8)]) (by rw [aad36_0]) (by rw [aad36_21, aad36_8]) ?_
  have hE37_0 := (hO39 0 (by decide) (by decide)).trans hE35_0
  rw [rfo_new hA39 (by first | decide | (simp; done) | (simp; omega))] at hE37_0
  have hE37_1 := (hO39 1 (by decide) (by decide)).trans hE35_1
  rw [rfo_new hA39 (by first | decide | (simp; done) | (simp; omega))] at hE37_1
  have hE37_2 := (hO39 2 (by decide) (by decide)).trans hE35_2
  have hE37_3 := (hO39 3 (by decide) (by decide)).trans hE35_3
  have hE37_4 := (hO39 4 (by decide) (by decide)).trans hE35_4
  have hE37_5 := (hO39 5 (by decide) (by decide)).trans hE35_5
  have hE37_6 := (hO39 6 (by decide) (by decide)).trans hE35_6
  rw [rfo_new hA39 (by first | decide | (simp; done) | (simp; omega))] at hE37_6
  have hE37_7 := (hO39 7 (by decide) (by decide)).trans hE35_7
  have hE37_8 := (hO39 8 (by decide) (by decide)).trans hE35_8
  rw [rfo_new hA39 (by first | decide | (simp; done) | (simp; omega))] at hE37_8
  have hE37_9 := (hO39 9 (by decide) (by decide)).trans hE35_9
  rw [rfo_new hA39 (by first | decide | (simp; done) | (simp; omega))] at hE37_9
  have hE37_10 := (hO39 10 (by decide) (by decide)).trans hE35_10
  have hE37_11 := (hO39 11 (by decide) (by decide)).trans hE35_11
  have hE37_12 := (hO39 12 (by decide) (by decide)).trans hE35_12
  have hE37_13 := (hO39 13 (by decide) (by decide)).trans hE35_13
  have hE37_14 := (hO39 14 (by decide) (by decide)).trans hE35_14
  have hE37_15 := (hO39 15 (by decide) (by decide)).trans hE35_15
  rw [rfo_new hA39 (by first | decide | (simp; done) | (simp; omega))] at hE37_15
  have hE37_16 := (hO39 16 (by decide) (by decide)).trans hE35_16
  have hE37_17 := (hO39 17 (by decide) (by decide)).trans hE35_17
  have hE37_18 := (hO39 18 (by decide) (by decide)).trans hE35_18
  have hE37_19 := (hO39 19 (by decide) (by decide)).trans hE35_19
  have hE37_20 := (hO39 20 (by decide) (by decide)).trans hE35_20
  refine v_astP C 8 21 dX8_init_55 (by decide) hE37_8 (by decide) hc39_21 (by decide) rfl (ti_in (show (2 : Int32).toInt = 2 by decide) (by omega) (by omega)) (fun E40 hE40_8 oE40 => ?_)
  rw [ti_cl (show (2 : Int32).toInt = 2 by decide), show Int.toNat 2 = 2 by omega, rfo_set (by decide)] at hE40_8
  have hE40_0 := (oE40 0 (by decide)).trans hE37_0
  have hE40_1 := (oE40 1 (by decide)).trans hE37_1
  have hE40_2 := (oE40 2 (by decide)).trans hE37_2
  have hE40_3 := (oE40 3 (by decide)).trans hE37_3
  have hE40_4 := (oE40 4 (by decide)).trans hE37_4
  have hE40_5 := (oE40 5 (by decide)).trans hE37_5
  have hE40_6 := (oE40 6 (by decide)).trans hE37_6
  have hE40_7 := (oE40 7 (by decide)).trans hE37_7
  have hE40_9 := (oE40 9 (by decide)).trans hE37_9
  have hE40_10 := (oE40 10 (by decide)).trans hE37_10
  have hE40_11 := (oE40 11 (by decide)).trans hE37_11
  have hE40_12 := (oE40 12 (by decide)).trans hE37_12
  have hE40_13 := (oE40 13 (by decide)).trans hE37_13
  have hE40_14 := (oE40 14 (by decide)).trans hE37_14
  have hE40_15 := (oE40 15 (by decide)).trans hE37_15
  have hE40_16 := (oE40 16 (by decide)).trans hE37_16
  have hE40_17 := (oE40 17 (by decide)).trans hE37_17
  have hE40_18 := (oE40 18 (by decide)).trans hE37_18
  have hE40_19 := (oE40 19 (by decide)).trans hE37_19
  have hE40_20 := (oE40 20 (by decide)).trans hE37_20
  have hE40_21 := (oE40 21 (by decide)).trans hc39_21
  have hE40_22 := (oE40 22 (by decide)).trans hc39_22
  have hE40_23 := (oE40 23 (by decide)).trans hc39_23
  have hE40_24 := (oE40 24 (by decide)).trans hc39_24
  have hE40_25 := (oE40 25 (by decide)).trans hc39_25
  have hE40_26 := (oE40 26 (by decide)).trans hc39_26
  have hE40_8 : E40 8 = aQ G 4 6 (rfo ad36 [some 9, some 15, some 21, none, none, none]) := hE40_8
  refine v_iinc (v := 3) (lv' := [(0, .ref (ad36 0)), (1, .int 3)]) C 1 [1, 0] dX8_init_56 rfl (by decide) (by decide) rfl ?_
  refine v_goto C 37 dX8_init_59 (by decide) ?_
  refine v_iload_n C 1 dX8_init_37 rfl rfl ?_
  refine v_bipush (v := 6) C dX8_init_38 (by decide) ?_
  refine b_icmp_ge C 62 dX8_init_40 (by decide) (show (3 : Int32).toInt = 3 by decide) (show (6 : Int32).toInt = 6 by decide) (fun c41 => absurd c41 (by decide)) (fun c41 => ?_)
  refine v_aload_n C 0 dX8_init_43 rfl rfl ?_
  refine v_getr C 0 dX8_init_44 fX8_25 (by decide) hE40_0 rfl rfl ?_
  refine v_iload_n C 1 dX8_init_47 rfl rfl ?_
  refine w_new (ci := 5) C dX8_init_48 (by decide) qX8_23 zX5 gX5 (fresh_fs (by decide)) (by decide) (by decide) (fun ad42 E43 hAE43 hNE43 oNE43 => ?_)
  have aad42_0 := hAE43 0 (by decide)
  have aad42_8 := hAE43 8 (by decide)
  refine v_cast (lv' := [(0, .ref (ad42 0)), (1, .int 3)]) (st' := [.ref (ad42 27), .int 3, .ref (ad42 8)]) (by rw [aad42_0]) (by rw [aad42_8]) ?_
  rw [← rfo_none (ad := ad42) (k := 9)] at hNE43
  have hNE43 : E43 27 = ob 5 (rfo ad42 [none, none, none, none, none, none, none, none, none]) ip0 := hNE43
  have hE43_0 := (oNE43 0 (by decide)).trans hE40_0
  rw [rfo_new hAE43 (by first | decide | (simp; done) | (simp; omega))] at hE43_0
  have hE43_1 := (oNE43 1 (by decide)).trans hE40_1
  rw [rfo_new hAE43 (by first | decide | (simp; done) | (simp; omega))] at hE43_1
  have hE43_2 := (oNE43 2 (by decide)).trans hE40_2
  have hE43_3 := (oNE43 3 (by decide)).trans hE40_3
  have hE43_4 := (oNE43 4 (by decide)).trans hE40_4
  have hE43_5 := (oNE43 5 (by decide)).trans hE40_5
  have hE43_6 := (oNE43 6 (by decide)).trans hE40_6
  rw [rfo_new hAE43 (by first | decide | (simp; done) | (simp; omega))] at hE43_6
  have hE43_7 := (oNE43 7 (by decide)).trans hE40_7
  have hE43_8 := (oNE43 8 (by decide)).trans hE40_8
  rw [rfo_new hAE43 (by first | decide | (simp; done) | (simp; omega))] at hE43_8
  have hE43_9 := (oNE43 9 (by decide)).trans hE40_9
  rw [rfo_new hAE43 (by first | decide | (simp; done) | (simp; omega))] at hE43_9
  have hE43_10 := (oNE43 10 (by decide)).trans hE40_10
  have hE43_11 := (oNE43 11 (by decide)).trans hE40_11
  have hE43_12 := (oNE43 12 (by decide)).trans hE40_12
  have hE43_13 := (oNE43 13 (by decide)).trans hE40_13
  have hE43_14 := (oNE43 14 (by decide)).trans hE40_14
  have hE43_15 := (oNE43 15 (by decide)).trans hE40_15
  rw [rfo_new hAE43 (by first | decide | (simp; done) | (simp; omega))] at hE43_15
  have hE43_16 := (oNE43 16 (by decide)).trans hE40_16
  have hE43_17 := (oNE43 17 (by decide)).trans hE40_17
  have hE43_18 := (oNE43 18 (by decide)).trans hE40_18
  have hE43_19 := (oNE43 19 (by decide)).trans hE40_19
  have hE43_20 := (oNE43 20 (by decide)).trans hE40_20
  have hE43_21 := (oNE43 21 (by decide)).trans hE40_21
  rw [rfo_new hAE43 (by first | decide | (simp; done) | (simp; omega))] at hE43_21
  have hE43_22 := (oNE43 22 (by decide)).trans hE40_22
  have hE43_23 := (oNE43 23 (by decide)).trans hE40_23
  have hE43_24 := (oNE43 24 (by decide)).trans hE40_24
  have hE43_25 := (oNE43 25 (by decide)).trans hE40_25
  have hE43_26 := (oNE43 26 (by decide)).trans hE40_26
  refine v_dup C dX8_init_51 rfl ?_
  refine v_cIN C 27 dX8_init_52 (List.mem_of_getElem? (i := 2) rfl) mX5_init (k_Program l G ad42 E43 27 hNE43) ⟨by decide, by decide⟩ rfl (Nat.le_of_ble_eq_true rfl) ⟨by decide, by decide⟩ (fun ad44 E45 hq46 => ?_)
  obtain ⟨hA47, hO47, hc47_27, hc47_28, hc47_29, hc47_30, hc47_31, hc47_32⟩ := hq46
  dsimp only at hA47 hO47 hc47_27 hc47_28 hc47_29 hc47_30 hc47_31 hc47_32
  have aad44_0 := hA47 0 (by decide)
  have aad44_27 := hA47 27 (by decide)
  have aad44_8 := hA47 8 (by decide)
  refine v_cast (lv' := [(0, .ref (ad44 0)), (1, .int 3)]) (st' := [.ref (ad44 27), .int 3, .ref (ad44 8)]) (by rw [aad44_0]) (by rw [aad44_27, aad44_8]) ?_
  have hE45_0 := (hO47 0 (by decide) (by decide)).trans hE43_0
  rw [rfo_new hA47 (by first | decide | (simp; done) | (simp; omega))] at hE45_0
  have hE45_1 := (hO47 1 (by decide) (by decide)).trans hE43_1
  rw [rfo_new hA47 (by first | decide | (simp; done) | (simp; omega))] at hE45_1
  have hE45_2 := (hO47 2 (by decide) (by decide)).trans hE43_2
  have hE45_3 := (hO47 3 (by decide) (by decide)).trans hE43_3
  have hE45_4 := (hO47 4 (by decide) (by decide)).trans hE43_4
  have hE45_5 := (hO47 5 (by decide) (by decide)).trans hE43_5
  have hE45_6 := (hO47 6 (by decide) (by decide)).trans hE43_6
  rw [rfo_new hA47 (by first | decide | (simp; done) | (simp; omega))] at hE45_6
  have hE45_7 := (hO47 7 (by decide) (by decide)).trans hE43_7
  have hE45_8 := (hO47 8 (by decide) (by decide)).trans hE43_8
  rw [rfo_new hA47 (by first | decide | (simp; done) | (simp; omega))] at hE45_8
  have hE45_9 := (hO47 9 (by decide) (by decide)).trans hE43_9
  rw [rfo_new hA47 (by first | decide | (simp; done) | (simp; omega))] at hE45_9
  have hE45_10 := (hO47 10 (by decide) (by decide)).trans hE43_10
  have hE45_11 := (hO47 11 (by decide) (by decide)).trans hE43_11
  have hE45_12 := (hO47 12 (by decide) (by decide)).trans hE43_12
  have hE45_13 := (hO47 13 (by decide) (by decide)).trans hE43_13
  have hE45_14 := (hO47 14 (by decide) (by decide)).trans hE43_14
  have hE45_15 := (hO47 15 (by decide) (by decide)).trans hE43_15
  rw [rfo_new hA47 (by first | decide | (simp; done) | (simp; omega))] at hE45_15
  have hE45_16 := (hO47 16 (by decide) (by decide)).trans hE43_16
  have hE45_17 := (hO47 17 (by decide) (by decide)).trans hE43_17
  have hE45_18 := (hO47 18 (by decide) (by decide)).trans hE43_18
  have hE45_19 := (hO47 19 (by decide) (by decide)).trans hE43_19
  have hE45_20 := (hO47 20 (by decide) (by decide)).trans hE43_20
  have hE45_21 := (hO47 21 (by decide) (by decide)).trans hE43_21
  rw [rfo_new hA47 (by first | decide | (simp; done) | (simp; omega))] at hE45_21
  have hE45_22 := (hO47 22 (by decide) (by decide)).trans hE43_22
  have hE45_23 := (hO47 23 (by decide) (by decide)).trans hE43_23
  have hE45_24 := (hO47 24 (by decide) (by decide)).trans hE43_24
  have hE45_25 := (hO47 25 (by decide) (by decide)).trans hE43_25
  have hE45_26 := (hO47 26 (by decide) (by decide)).trans hE43_26
  refine v_astP C 8 27 dX8_init_55 (by decide) hE45_8 (by decide) hc47_27 (by decide) rfl (ti_in (show (3 : Int32).toInt = 3 by decide) (by omega) (by omega)) (fun E48 hE48_8 oE48 => ?_)
  rw [ti_cl (show (3 : Int32).toInt = 3 by decide), show Int.toNat 3 = 3 by omega, rfo_set (by decide)] at hE48_8
  have hE48_0 := (oE48 0 (by decide)).trans hE45_0
  have hE48_1 := (oE48 1 (by decide)).trans hE45_1
  have hE48_2 := (oE48 2 (by decide)).trans hE45_2
  have hE48_3 := (oE48 3 (by decide)).trans hE45_3
  have hE48_4 := (oE48 4 (by decide)).trans hE45_4
  have hE48_5 := (oE48 5 (by decide)).trans hE45_5
  have hE48_6 := (oE48 6 (by decide)).trans hE45_6
  have hE48_7 := (oE48 7 (by decide)).trans hE45_7
  have hE48_9 := (oE48 9 (by decide)).trans hE45_9
  have hE48_10 := (oE48 10 (by decide)).trans hE45_10
  have hE48_11 := (oE48 11 (by decide)).trans hE45_11
  have hE48_12 := (oE48 12 (by decide)).trans hE45_12
  have hE48_13 := (oE48 13 (by decide)).trans hE45_13
  have hE48_14 := (oE48 14 (by decide)).trans hE45_14
  have hE48_15 := (oE48 15 (by decide)).trans hE45_15
  have hE48_16 := (oE48 16 (by decide)).trans hE45_16
  have hE48_17 := (oE48 17 (by decide)).trans hE45_17
  have hE48_18 := (oE48 18 (by decide)).trans hE45_18
  have hE48_19 := (oE48 19 (by decide)).trans hE45_19
  have hE48_20 := (oE48 20 (by decide)).trans hE45_20
  have hE48_21 := (oE48 21 (by decide)).trans hE45_21
  have hE48_22 := (oE48 22 (by decide)).trans hE45_22
  have hE48_23 := (oE48 23 (by decide)).trans hE45_23
  have hE48_24 := (oE48 24 (by decide)).trans hE45_24
  have hE48_25 := (oE48 25 (by decide)).trans hE45_25
  have hE48_26 := (oE48 26 (by decide)).trans hE45_26
  have hE48_27 := (oE48 27 (by decide)).trans hc47_27
  have hE48_28 := (oE48 28 (by decide)).trans hc47_28
  have hE48_29 := (oE48 29 (by decide)).trans hc47_29
  have hE48_30 := (oE48 30 (by decide)).trans hc47_30
  have hE48_31 := (oE48 31 (by decide)).trans hc47_31
  have hE48_32 := (oE48 32 (by decide)).trans hc47_32
  have hE48_8 : E48 8 = aQ G 4 6 (rfo ad44 [some 9, some 15, some 21, some 27, none, none]) := hE48_8
  refine v_iinc (v := 4) (lv' := [(0, .ref (ad44 0)), (1, .int 4)]) C 1 [1, 0] dX8_init_56 rfl (by decide) (by decide) rfl ?_
  refine v_goto C 37 dX8_init_59 (by decide) ?_
  refine v_iload_n C 1 dX8_init_37 rfl rfl ?_
  refine v_bipush (v := 6) C dX8_init_38 (by decide) ?_
  refine b_icmp_ge C 62 dX8_init_40 (by decide) (show (4 : Int32).toInt = 4 by decide) (show (6 : Int32).toInt = 6 by decide) (fun c49 => absurd c49 (by decide)) (fun c49 => ?_)
  refine v_aload_n C 0 dX8_init_43 rfl rfl ?_
  refine v_getr C 0 dX8_init_44 fX8_25 (by decide) hE48_0 rfl rfl ?_
  refine v_iload_n C 1 dX8_init_47 rfl rfl ?_
  refine w_new (ci := 5) C dX8_init_48 (by decide) qX8_23 zX5 gX5 (fresh_fs (by decide)) (by decide) (by decide) (fun ad50 E51 hAE51 hNE51 oNE51 => ?_)
  have aad50_0 := hAE51 0 (by decide)
  have aad50_8 := hAE51 8 (by decide)
  refine v_cast (lv' := [(0, .ref (ad50 0)), (1, .int 4)]) (st' := [.ref (ad50 33), .int 4, .ref (ad50 8)]) (by rw [aad50_0]) (by rw [aad50_8]) ?_
  rw [← rfo_none (ad := ad50) (k := 9)] at hNE51
  have hNE51 : E51 33 = ob 5 (rfo ad50 [none, none, none, none, none, none, none, none, none]) ip0 := hNE51
  have hE51_0 := (oNE51 0 (by decide)).trans hE48_0
  rw [rfo_new hAE51 (by first | decide | (simp; done) | (simp; omega))] at hE51_0
  have hE51_1 := (oNE51 1 (by decide)).trans hE48_1
  rw [rfo_new hAE51 (by first | decide | (simp; done) | (simp; omega))] at hE51_1
  have hE51_2 := (oNE51 2 (by decide)).trans hE48_2
  have hE51_3 := (oNE51 3 (by decide)).trans hE48_3
  have hE51_4 := (oNE51 4 (by decide)).trans hE48_4
  have hE51_5 := (oNE51 5 (by decide)).trans hE48_5
  have hE51_6 := (oNE51 6 (by decide)).trans hE48_6
  rw [rfo_new hAE51 (by first | decide | (simp; done) | (simp; omega))] at hE51_6
  have hE51_7 := (oNE51 7 (by decide)).trans hE48_7
  have hE51_8 := (oNE51 8 (by decide)).trans hE48_8
  rw [rfo_new hAE51 (by first | decide | (simp; done) | (simp; omega))] at hE51_8
  have hE51_9 := (oNE51 9 (by decide)).trans hE48_9
  rw [rfo_new hAE51 (by first | decide | (simp; done) | (simp; omega))] at hE51_9
  have hE51_10 := (oNE51 10 (by decide)).trans hE48_10
  have hE51_11 := (oNE51 11 (by decide)).trans hE48_11
  have hE51_12 := (oNE51 12 (by decide)).trans hE48_12
  have hE51_13 := (oNE51 13 (by decide)).trans hE48_13
  have hE51_14 := (oNE51 14 (by decide)).trans hE48_14
  have hE51_15 := (oNE51 15 (by decide)).trans hE48_15
  rw [rfo_new hAE51 (by first | decide | (simp; done) | (simp; omega))] at hE51_15
  have hE51_16 := (oNE51 16 (by decide)).trans hE48_16
  have hE51_17 := (oNE51 17 (by decide)).trans hE48_17
  have hE51_18 := (oNE51 18 (by decide)).trans hE48_18
  have hE51_19 := (oNE51 19 (by decide)).trans hE48_19
  have hE51_20 := (oNE51 20 (by decide)).trans hE48_20
  have hE51_21 := (oNE51 21 (by decide)).trans hE48_21
  rw [rfo_new hAE51 (by first | decide | (simp; done) | (simp; omega))] at hE51_21
  have hE51_22 := (oNE51 22 (by decide)).trans hE48_22
  have hE51_23 := (oNE51 23 (by decide)).trans hE48_23
  have hE51_24 := (oNE51 24 (by decide)).trans hE48_24
  have hE51_25 := (oNE51 25 (by decide)).trans hE48_25
  have hE51_26 := (oNE51 26 (by decide)).trans hE48_26
  have hE51_27 := (oNE51 27 (by decide)).trans hE48_27
  rw [rfo_new hAE51 (by first | decide | (simp; done) | (simp; omega))] at hE51_27
  have hE51_28 := (oNE51 28 (by decide)).trans hE48_28
  have hE51_29 := (oNE51 29 (by decide)).trans hE48_29
  have hE51_30 := (oNE51 30 (by decide)).trans hE48_30
  have hE51_31 := (oNE51 31 (by decide)).trans hE48_31
  have hE51_32 := (oNE51 32 (by decide)).trans hE48_32
  refine v_dup C dX8_init_51 rfl ?_
  refine v_cIN C 33 dX8_init_52 (List.mem_of_getElem? (i := 2) rfl) mX5_init (k_Program l G ad50 E51 33 hNE51) ⟨by decide, by decide⟩ rfl (Nat.le_of_ble_eq_true rfl) ⟨by decide, by decide⟩ (fun ad52 E53 hq54 => ?_)
  obtain ⟨hA55, hO55, hc55_33, hc55_34, hc55_35, hc55_36, hc55_37, hc55_38⟩ := hq54
  dsimp only at hA55 hO55 hc55_33 hc55_34 hc55_35 hc55_36 hc55_37 hc55_38
  have aad52_0 := hA55 0 (by decide)
  have aad52_33 := hA55 33 (by decide)
  have aad52_8 := hA55 8 (by decide)
  refine v_cast (lv' := [(0, .ref (ad52 0)), (1, .int 4)]) (st' := [.ref (ad52 33), .int 4, .ref (ad52 8)]) (by rw [aad52_0]) (by rw [aad52_33, aad52_8]) ?_
  have hE53_0 := (hO55 0 (by decide) (by decide)).trans hE51_0
  rw [rfo_new hA55 (by first | decide | (simp; done) | (simp; omega))] at hE53_0
  have hE53_1 := (hO55 1 (by decide) (by decide)).trans hE51_1
  rw [rfo_new hA55 (by first | decide | (simp; done) | (simp; omega))] at hE53_1
  have hE53_2 := (hO55 2 (by decide) (by decide)).trans hE51_2
  have hE53_3 := (hO55 3 (by decide) (by decide)).trans hE51_3
  have hE53_4 := (hO55 4 (by decide) (by decide)).trans hE51_4
  have hE53_5 := (hO55 5 (by decide) (by decide)).trans hE51_5
  have hE53_6 := (hO55 6 (by decide) (by decide)).trans hE51_6
  rw [rfo_new hA55 (by first | decide | (simp; done) | (simp; omega))] at hE53_6
  have hE53_7 := (hO55 7 (by decide) (by decide)).trans hE51_7
  have hE53_8 := (hO55 8 (by decide) (by decide)).trans hE51_8
  rw [rfo_new hA55 (by first | decide | (simp; done) | (simp; omega))] at hE53_8
  have hE53_9 := (hO55 9 (by decide) (by decide)).trans hE51_9
  rw [rfo_new hA55 (by first | decide | (simp; done) | (simp; omega))] at hE53_9
  have hE53_10 := (hO55 10 (by decide) (by decide)).trans hE51_10
  have hE53_11 := (hO55 11 (by decide) (by decide)).trans hE51_11
  have hE53_12 := (hO55 12 (by decide) (by decide)).trans hE51_12
  have hE53_13 := (hO55 13 (by decide) (by decide)).trans hE51_13
  have hE53_14 := (hO55 14 (by decide) (by decide)).trans hE51_14
  have hE53_15 := (hO55 15 (by decide) (by decide)).trans hE51_15
  rw [rfo_new hA55 (by first | decide | (simp; done) | (simp; omega))] at hE53_15
  have hE53_16 := (hO55 16 (by decide) (by decide)).trans hE51_16
  have hE53_17 := (hO55 17 (by decide) (by decide)).trans hE51_17
  have hE53_18 := (hO55 18 (by decide) (by decide)).trans hE51_18
  have hE53_19 := (hO55 19 (by decide) (by decide)).trans hE51_19
  have hE53_20 := (hO55 20 (by decide) (by decide)).trans hE51_20
  have hE53_21 := (hO55 21 (by decide) (by decide)).trans hE51_21
  rw [rfo_new hA55 (by first | decide | (simp; done) | (simp; omega))] at hE53_21
  have hE53_22 := (hO55 22 (by decide) (by decide)).trans hE51_22
  have hE53_23 := (hO55 23 (by decide) (by decide)).trans hE51_23
  have hE53_24 := (hO55 24 (by decide) (by decide)).trans hE51_24
  have hE53_25 := (hO55 25 (by decide) (by decide)).trans hE51_25
  have hE53_26 := (hO55 26 (by decide) (by decide)).trans hE51_26
  have hE53_27 := (hO55 27 (by decide) (by decide)).trans hE51_27
  rw [rfo_new hA55 (by first | decide | (simp; done) | (simp; omega))] at hE53_27
  have hE53_28 := (hO55 28 (by decide) (by decide)).trans hE51_28
  have hE53_29 := (hO55 29 (by decide) (by decide)).trans hE51_29
  have hE53_30 := (hO55 30 (by decide) (by decide)).trans hE51_30
  have hE53_31 := (hO55 31 (by decide) (by decide)).trans hE51_31
  have hE53_32 := (hO55 32 (by decide) (by decide)).trans hE51_32
  refine v_astP C 8 33 dX8_init_55 (by decide) hE53_8 (by decide) hc55_33 (by decide) rfl (ti_in (show (4 : Int32).toInt = 4 by decide) (by omega) (by omega)) (fun E56 hE56_8 oE56 => ?_)
  rw [ti_cl (show (4 : Int32).toInt = 4 by decide), show Int.toNat 4 = 4 by omega, rfo_set (by decide)] at hE56_8
  have hE56_0 := (oE56 0 (by decide)).trans hE53_0
  have hE56_1 := (oE56 1 (by decide)).trans hE53_1
  have hE56_2 := (oE56 2 (by decide)).trans hE53_2
  have hE56_3 := (oE56 3 (by decide)).trans hE53_3
  have hE56_4 := (oE56 4 (by decide)).trans hE53_4
  have hE56_5 := (oE56 5 (by decide)).trans hE53_5
  have hE56_6 := (oE56 6 (by decide)).trans hE53_6
  have hE56_7 := (oE56 7 (by decide)).trans hE53_7
  have hE56_9 := (oE56 9 (by decide)).trans hE53_9
  have hE56_10 := (oE56 10 (by decide)).trans hE53_10
  have hE56_11 := (oE56 11 (by decide)).trans hE53_11
  have hE56_12 := (oE56 12 (by decide)).trans hE53_12
  have hE56_13 := (oE56 13 (by decide)).trans hE53_13
  have hE56_14 := (oE56 14 (by decide)).trans hE53_14
  have hE56_15 := (oE56 15 (by decide)).trans hE53_15
  have hE56_16 := (oE56 16 (by decide)).trans hE53_16
  have hE56_17 := (oE56 17 (by decide)).trans hE53_17
  have hE56_18 := (oE56 18 (by decide)).trans hE53_18
  have hE56_19 := (oE56 19 (by decide)).trans hE53_19
  have hE56_20 := (oE56 20 (by decide)).trans hE53_20
  have hE56_21 := (oE56 21 (by decide)).trans hE53_21
  have hE56_22 := (oE56 22 (by decide)).trans hE53_22
  have hE56_23 := (oE56 23 (by decide)).trans hE53_23
  have hE56_24 := (oE56 24 (by decide)).trans hE53_24
  have hE56_25 := (oE56 25 (by decide)).trans hE53_25
  have hE56_26 := (oE56 26 (by decide)).trans hE53_26
  have hE56_27 := (oE56 27 (by decide)).trans hE53_27
  have hE56_28 := (oE56 28 (by decide)).trans hE53_28
  have hE56_29 := (oE56 29 (by decide)).trans hE53_29
  have hE56_30 := (oE56 30 (by decide)).trans hE53_30
  have hE56_31 := (oE56 31 (by decide)).trans hE53_31
  have hE56_32 := (oE56 32 (by decide)).trans hE53_32
  have hE56_33 := (oE56 33 (by decide)).trans hc55_33
  have hE56_34 := (oE56 34 (by decide)).trans hc55_34
  have hE56_35 := (oE56 35 (by decide)).trans hc55_35
  have hE56_36 := (oE56 36 (by decide)).trans hc55_36
  have hE56_37 := (oE56 37 (by decide)).trans hc55_37
  have hE56_38 := (oE56 38 (by decide)).trans hc55_38
  have hE56_8 : E56 8 = aQ G 4 6 (rfo ad52 [some 9, some 15, some 21, some 27, some 33, none]) := hE56_8
  refine v_iinc (v := 5) (lv' := [(0, .ref (ad52 0)), (1, .int 5)]) C 1 [1, 0] dX8_init_56 rfl (by decide) (by decide) rfl ?_
  refine v_goto C 37 dX8_init_59 (by decide) ?_
  refine v_iload_n C 1 dX8_init_37 rfl rfl ?_
  refine v_bipush (v := 6) C dX8_init_38 (by decide) ?_
  refine b_icmp_ge C 62 dX8_init_40 (by decide) (show (5 : Int32).toInt = 5 by decide) (show (6 : Int32).toInt = 6 by decide) (fun c57 => absurd c57 (by decide)) (fun c57 => ?_)
  refine v_aload_n C 0 dX8_init_43 rfl rfl ?_
  refine v_getr C 0 dX8_init_44 fX8_25 (by decide) hE56_0 rfl rfl ?_
  refine v_iload_n C 1 dX8_init_47 rfl rfl ?_
  refine w_new (ci := 5) C dX8_init_48 (by decide) qX8_23 zX5 gX5 (fresh_fs (by decide)) (by decide) (by decide) (fun ad58 E59 hAE59 hNE59 oNE59 => ?_)
  have aad58_0 := hAE59 0 (by decide)
  have aad58_8 := hAE59 8 (by decide)
  refine v_cast (lv' := [(0, .ref (ad58 0)), (1, .int 5)]) (st' := [.ref (ad58 39), .int 5, .ref (ad58 8)]) (by rw [aad58_0]) (by rw [aad58_8]) ?_
  rw [← rfo_none (ad := ad58) (k := 9)] at hNE59
  have hNE59 : E59 39 = ob 5 (rfo ad58 [none, none, none, none, none, none, none, none, none]) ip0 := hNE59
  have hE59_0 := (oNE59 0 (by decide)).trans hE56_0
  rw [rfo_new hAE59 (by first | decide | (simp; done) | (simp; omega))] at hE59_0
  have hE59_1 := (oNE59 1 (by decide)).trans hE56_1
  rw [rfo_new hAE59 (by first | decide | (simp; done) | (simp; omega))] at hE59_1
  have hE59_2 := (oNE59 2 (by decide)).trans hE56_2
  have hE59_3 := (oNE59 3 (by decide)).trans hE56_3
  have hE59_4 := (oNE59 4 (by decide)).trans hE56_4
  have hE59_5 := (oNE59 5 (by decide)).trans hE56_5
  have hE59_6 := (oNE59 6 (by decide)).trans hE56_6
  rw [rfo_new hAE59 (by first | decide | (simp; done) | (simp; omega))] at hE59_6
  have hE59_7 := (oNE59 7 (by decide)).trans hE56_7
  have hE59_8 := (oNE59 8 (by decide)).trans hE56_8
  rw [rfo_new hAE59 (by first | decide | (simp; done) | (simp; omega))] at hE59_8
  have hE59_9 := (oNE59 9 (by decide)).trans hE56_9
  rw [rfo_new hAE59 (by first | decide | (simp; done) | (simp; omega))] at hE59_9
  have hE59_10 := (oNE59 10 (by decide)).trans hE56_10
  have hE59_11 := (oNE59 11 (by decide)).trans hE56_11
  have hE59_12 := (oNE59 12 (by decide)).trans hE56_12
  have hE59_13 := (oNE59 13 (by decide)).trans hE56_13
  have hE59_14 := (oNE59 14 (by decide)).trans hE56_14
  have hE59_15 := (oNE59 15 (by decide)).trans hE56_15
  rw [rfo_new hAE59 (by first | decide | (simp; done) | (simp; omega))] at hE59_15
  have hE59_16 := (oNE59 16 (by decide)).trans hE56_16
  have hE59_17 := (oNE59 17 (by decide)).trans hE56_17
  have hE59_18 := (oNE59 18 (by decide)).trans hE56_18
  have hE59_19 := (oNE59 19 (by decide)).trans hE56_19
  have hE59_20 := (oNE59 20 (by decide)).trans hE56_20
  have hE59_21 := (oNE59 21 (by decide)).trans hE56_21
  rw [rfo_new hAE59 (by first | decide | (simp; done) | (simp; omega))] at hE59_21
  have hE59_22 := (oNE59 22 (by decide)).trans hE56_22
  have hE59_23 := (oNE59 23 (by decide)).trans hE56_23
  have hE59_24 := (oNE59 24 (by decide)).trans hE56_24
  have hE59_25 := (oNE59 25 (by decide)).trans hE56_25
  have hE59_26 := (oNE59 26 (by decide)).trans hE56_26
  have hE59_27 := (oNE59 27 (by decide)).trans hE56_27
  rw [rfo_new hAE59 (by first | decide | (simp; done) | (simp; omega))] at hE59_27
  have hE59_28 := (oNE59 28 (by decide)).trans hE56_28
  have hE59_29 := (oNE59 29 (by decide)).trans hE56_29
  have hE59_30 := (oNE59 30 (by decide)).trans hE56_30
  have hE59_31 := (oNE59 31 (by decide)).trans hE56_31
  have hE59_32 := (oNE59 32 (by decide)).trans hE56_32
  have hE59_33 := (oNE59 33 (by decide)).trans hE56_33
  rw [rfo_new hAE59 (by first | decide | (simp; done) | (simp; omega))] at hE59_33
  have hE59_34 := (oNE59 34 (by decide)).trans hE56_34
  have hE59_35 := (oNE59 35 (by decide)).trans hE56_35
  have hE59_36 := (oNE59 36 (by decide)).trans hE56_36
  have hE59_37 := (oNE59 37 (by decide)).trans hE56_37
  have hE59_38 := (oNE59 38 (by decide)).trans hE56_38
  refine v_dup C dX8_init_51 rfl ?_
  refine v_cIN C 39 dX8_init_52 (List.mem_of_getElem? (i := 2) rfl) mX5_init (k_Program l G ad58 E59 39 hNE59) ⟨by decide, by decide⟩ rfl (Nat.le_of_ble_eq_true rfl) ⟨by decide, by decide⟩ (fun ad60 E61 hq62 => ?_)
  obtain ⟨hA63, hO63, hc63_39, hc63_40, hc63_41, hc63_42, hc63_43, hc63_44⟩ := hq62
  dsimp only at hA63 hO63 hc63_39 hc63_40 hc63_41 hc63_42 hc63_43 hc63_44
  have aad60_0 := hA63 0 (by decide)
  have aad60_39 := hA63 39 (by decide)
  have aad60_8 := hA63 8 (by decide)
  refine v_cast (lv' := [(0, .ref (ad60 0)), (1, .int 5)]) (st' := [.ref (ad60 39), .int 5, .ref (ad60 8)]) (by rw [aad60_0]) (by rw [aad60_39, aad60_8]) ?_
  have hE61_0 := (hO63 0 (by decide) (by decide)).trans hE59_0
  rw [rfo_new hA63 (by first | decide | (simp; done) | (simp; omega))] at hE61_0
  have hE61_1 := (hO63 1 (by decide) (by decide)).trans hE59_1
  rw [rfo_new hA63 (by first | decide | (simp; done) | (simp; omega))] at hE61_1
  have hE61_2 := (hO63 2 (by decide) (by decide)).trans hE59_2
  have hE61_3 := (hO63 3 (by decide) (by decide)).trans hE59_3
  have hE61_4 := (hO63 4 (by decide) (by decide)).trans hE59_4
  have hE61_5 := (hO63 5 (by decide) (by decide)).trans hE59_5
  have hE61_6 := (hO63 6 (by decide) (by decide)).trans hE59_6
  rw [rfo_new hA63 (by first | decide | (simp; done) | (simp; omega))] at hE61_6
  have hE61_7 := (hO63 7 (by decide) (by decide)).trans hE59_7
  have hE61_8 := (hO63 8 (by decide) (by decide)).trans hE59_8
  rw [rfo_new hA63 (by first | decide | (simp; done) | (simp; omega))] at hE61_8
  have hE61_9 := (hO63 9 (by decide) (by decide)).trans hE59_9
  rw [rfo_new hA63 (by first | decide | (simp; done) | (simp; omega))] at hE61_9
  have hE61_10 := (hO63 10 (by decide) (by decide)).trans hE59_10
  have hE61_11 := (hO63 11 (by decide) (by decide)).trans hE59_11
  have hE61_12 := (hO63 12 (by decide) (by decide)).trans hE59_12
  have hE61_13 := (hO63 13 (by decide) (by decide)).trans hE59_13
  have hE61_14 := (hO63 14 (by decide) (by decide)).trans hE59_14
  have hE61_15 := (hO63 15 (by decide) (by decide)).trans hE59_15
  rw [rfo_new hA63 (by first | decide | (simp; done) | (simp; omega))] at hE61_15
  have hE61_16 := (hO63 16 (by decide) (by decide)).trans hE59_16
  have hE61_17 := (hO63 17 (by decide) (by decide)).trans hE59_17
  have hE61_18 := (hO63 18 (by decide) (by decide)).trans hE59_18
  have hE61_19 := (hO63 19 (by decide) (by decide)).trans hE59_19
  have hE61_20 := (hO63 20 (by decide) (by decide)).trans hE59_20
  have hE61_21 := (hO63 21 (by decide) (by decide)).trans hE59_21
  rw [rfo_new hA63 (by first | decide | (simp; done) | (simp; omega))] at hE61_21
  have hE61_22 := (hO63 22 (by decide) (by decide)).trans hE59_22
  have hE61_23 := (hO63 23 (by decide) (by decide)).trans hE59_23
  have hE61_24 := (hO63 24 (by decide) (by decide)).trans hE59_24
  have hE61_25 := (hO63 25 (by decide) (by decide)).trans hE59_25
  have hE61_26 := (hO63 26 (by decide) (by decide)).trans hE59_26
  have hE61_27 := (hO63 27 (by decide) (by decide)).trans hE59_27
  rw [rfo_new hA63 (by first | decide | (simp; done) | (simp; omega))] at hE61_27
  have hE61_28 := (hO63 28 (by decide) (by decide)).trans hE59_28
  have hE61_29 := (hO63 29 (by decide) (by decide)).trans hE59_29
  have hE61_30 := (hO63 30 (by decide) (by decide)).trans hE59_30
  have hE61_31 := (hO63 31 (by decide) (by decide)).trans hE59_31
  have hE61_32 := (hO63 32 (by decide) (by decide)).trans hE59_32
  have hE61_33 := (hO63 33 (by decide) (by decide)).trans hE59_33
  rw [rfo_new hA63 (by first | decide | (simp; done) | (simp; omega))] at hE61_33
  have hE61_34 := (hO63 34 (by decide) (by decide)).trans hE59_34
  have hE61_35 := (hO63 35 (by decide) (by decide)).trans hE59_35
  have hE61_36 := (hO63 36 (by decide) (by decide)).trans hE59_36
  have hE61_37 := (hO63 37 (by decide) (by decide)).trans hE59_37
  have hE61_38 := (hO63 38 (by decide) (by decide)).trans hE59_38
  refine v_astP C 8 39 dX8_init_55 (by decide) hE61_8 (by decide) hc63_39 (by decide) rfl (ti_in (show (5 : Int32).toInt = 5 by decide) (by omega) (by omega)) (fun E64 hE64_8 oE64 => ?_)
  rw [ti_cl (show (5 : Int32).toInt = 5 by decide), show Int.toNat 5 = 5 by omega, rfo_set (by decide)] at hE64_8
  have hE64_0 := (oE64 0 (by decide)).trans hE61_0
  have hE64_1 := (oE64 1 (by decide)).trans hE61_1
  have hE64_2 := (oE64 2 (by decide)).trans hE61_2
  have hE64_3 := (oE64 3 (by decide)).trans hE61_3
  have hE64_4 := (oE64 4 (by decide)).trans hE61_4
  have hE64_5 := (oE64 5 (by decide)).trans hE61_5
  have hE64_6 := (oE64 6 (by decide)).trans hE61_6
  have hE64_7 := (oE64 7 (by decide)).trans hE61_7
  have hE64_9 := (oE64 9 (by decide)).trans hE61_9
  have hE64_10 := (oE64 10 (by decide)).trans hE61_10
  have hE64_11 := (oE64 11 (by decide)).trans hE61_11
  have hE64_12 := (oE64 12 (by decide)).trans hE61_12
  have hE64_13 := (oE64 13 (by decide)).trans hE61_13
  have hE64_14 := (oE64 14 (by decide)).trans hE61_14
  have hE64_15 := (oE64 15 (by decide)).trans hE61_15
  have hE64_16 := (oE64 16 (by decide)).trans hE61_16
  have hE64_17 := (oE64 17 (by decide)).trans hE61_17
  have hE64_18 := (oE64 18 (by decide)).trans hE61_18
  have hE64_19 := (oE64 19 (by decide)).trans hE61_19
  have hE64_20 := (oE64 20 (by decide)).trans hE61_20
  have hE64_21 := (oE64 21 (by decide)).trans hE61_21
  have hE64_22 := (oE64 22 (by decide)).trans hE61_22
  have hE64_23 := (oE64 23 (by decide)).trans hE61_23
  have hE64_24 := (oE64 24 (by decide)).trans hE61_24
  have hE64_25 := (oE64 25 (by decide)).trans hE61_25
  have hE64_26 := (oE64 26 (by decide)).trans hE61_26
  have hE64_27 := (oE64 27 (by decide)).trans hE61_27
  have hE64_28 := (oE64 28 (by decide)).trans hE61_28
  have hE64_29 := (oE64 29 (by decide)).trans hE61_29
  have hE64_30 := (oE64 30 (by decide)).trans hE61_30
  have hE64_31 := (oE64 31 (by decide)).trans hE61_31
  have hE64_32 := (oE64 32 (by decide)).trans hE61_32
  have hE64_33 := (oE64 33 (by decide)).trans hE61_33
  have hE64_34 := (oE64 34 (by decide)).trans hE61_34
  have hE64_35 := (oE64 35 (by decide)).trans hE61_35
  have hE64_36 := (oE64 36 (by decide)).trans hE61_36
  have hE64_37 := (oE64 37 (by decide)).trans hE61_37
  have hE64_38 := (oE64 38 (by decide)).trans hE61_38
  have hE64_39 := (oE64 39 (by decide)).trans hc63_39
  have hE64_40 := (oE64 40 (by decide)).trans hc63_40
  have hE64_41 := (oE64 41 (by decide)).trans hc63_41
  have hE64_42 := (oE64 42 (by decide)).trans hc63_42
  have hE64_43 := (oE64 43 (by decide)).trans hc63_43
  have hE64_44 := (oE64 44 (by decide)).trans hc63_44
  have hE64_8 : E64 8 = aQ G 4 6 (rfo ad60 [some 9, some 15, some 21, some 27, some 33, some 39]) := hE64_8
  refine v_iinc (v := 6) (lv' := [(0, .ref (ad60 0)), (1, .int 6)]) C 1 [1, 0] dX8_init_56 rfl (by decide) (by decide) rfl ?_
  refine v_goto C 37 dX8_init_59 (by decide) ?_
  refine v_iload_n C 1 dX8_init_37 rfl rfl ?_
  refine v_bipush (v := 6) C dX8_init_38 (by decide) ?_
  refine b_icmp_ge C 62 dX8_init_40 (by decide) (show (6 : Int32).toInt = 6 by decide) (show (6 : Int32).toInt = 6 by decide) (fun c65 => ?_) (fun c65 => absurd c65 (by decide))
  refine v_aload_n C 0 dX8_init_62 rfl rfl ?_
  refine w_new (ci := 4) C dX8_init_63 (by decide) qX8_30 zX4 gX4 (fresh_fs (by decide)) (by decide) (by decide) (fun ad66 E67 hAE67 hNE67 oNE67 => ?_)
  have aad66_0 := hAE67 0 (by decide)
  refine v_cast (lv' := [(0, .ref (ad66 0)), (1, .int 6)]) (st' := [.ref (ad66 45), .ref (ad66 0)]) (by rw [aad66_0]) (by rw [aad66_0]) ?_
  rw [← rfo_none (ad := ad66) (k := 6)] at hNE67
  have hNE67 : E67 45 = ob 4 (rfo ad66 [none, none, none, none, none, none]) ip0 := hNE67
  have hE67_0 := (oNE67 0 (by decide)).trans hE64_0
  rw [rfo_new hAE67 (by first | decide | (simp; done) | (simp; omega))] at hE67_0
  have hE67_1 := (oNE67 1 (by decide)).trans hE64_1
  rw [rfo_new hAE67 (by first | decide | (simp; done) | (simp; omega))] at hE67_1
  have hE67_2 := (oNE67 2 (by decide)).trans hE64_2
  have hE67_3 := (oNE67 3 (by decide)).trans hE64_3
  have hE67_4 := (oNE67 4 (by decide)).trans hE64_4
  have hE67_5 := (oNE67 5 (by decide)).trans hE64_5
  have hE67_6 := (oNE67 6 (by decide)).trans hE64_6
  rw [rfo_new hAE67 (by first | decide | (simp; done) | (simp; omega))] at hE67_6
  have hE67_7 := (oNE67 7 (by decide)).trans hE64_7
  have hE67_8 := (oNE67 8 (by decide)).trans hE64_8
  rw [rfo_new hAE67 (by first | decide | (simp; done) | (simp; omega))] at hE67_8
  have hE67_9 := (oNE67 9 (by decide)).trans hE64_9
  rw [rfo_new hAE67 (by first | decide | (simp; done) | (simp; omega))] at hE67_9
  have hE67_10 := (oNE67 10 (by decide)).trans hE64_10
  have hE67_11 := (oNE67 11 (by decide)).trans hE64_11
  have hE67_12 := (oNE67 12 (by decide)).trans hE64_12
  have hE67_13 := (oNE67 13 (by decide)).trans hE64_13
  have hE67_14 := (oNE67 14 (by decide)).trans hE64_14
  have hE67_15 := (oNE67 15 (by decide)).trans hE64_15
  rw [rfo_new hAE67 (by first | decide | (simp; done) | (simp; omega))] at hE67_15
  have hE67_16 := (oNE67 16 (by decide)).trans hE64_16
  have hE67_17 := (oNE67 17 (by decide)).trans hE64_17
  have hE67_18 := (oNE67 18 (by decide)).trans hE64_18
  have hE67_19 := (oNE67 19 (by decide)).trans hE64_19
  have hE67_20 := (oNE67 20 (by decide)).trans hE64_20
  have hE67_21 := (oNE67 21 (by decide)).trans hE64_21
  rw [rfo_new hAE67 (by first | decide | (simp; done) | (simp; omega))] at hE67_21
  have hE67_22 := (oNE67 22 (by decide)).trans hE64_22
  have hE67_23 := (oNE67 23 (by decide)).trans hE64_23
  have hE67_24 := (oNE67 24 (by decide)).trans hE64_24
  have hE67_25 := (oNE67 25 (by decide)).trans hE64_25
  have hE67_26 := (oNE67 26 (by decide)).trans hE64_26
  have hE67_27 := (oNE67 27 (by decide)).trans hE64_27
  rw [rfo_new hAE67 (by first | decide | (simp; done) | (simp; omega))] at hE67_27
  have hE67_28 := (oNE67 28 (by decide)).trans hE64_28
  have hE67_29 := (oNE67 29 (by decide)).trans hE64_29
  have hE67_30 := (oNE67 30 (by decide)).trans hE64_30
  have hE67_31 := (oNE67 31 (by decide)).trans hE64_31
  have hE67_32 := (oNE67 32 (by decide)).trans hE64_32
  have hE67_33 := (oNE67 33 (by decide)).trans hE64_33
  rw [rfo_new hAE67 (by first | decide | (simp; done) | (simp; omega))] at hE67_33
  have hE67_34 := (oNE67 34 (by decide)).trans hE64_34
  have hE67_35 := (oNE67 35 (by decide)).trans hE64_35
  have hE67_36 := (oNE67 36 (by decide)).trans hE64_36
  have hE67_37 := (oNE67 37 (by decide)).trans hE64_37
  have hE67_38 := (oNE67 38 (by decide)).trans hE64_38
  have hE67_39 := (oNE67 39 (by decide)).trans hE64_39
  rw [rfo_new hAE67 (by first | decide | (simp; done) | (simp; omega))] at hE67_39
  have hE67_40 := (oNE67 40 (by decide)).trans hE64_40
  have hE67_41 := (oNE67 41 (by decide)).trans hE64_41
  have hE67_42 := (oNE67 42 (by decide)).trans hE64_42
  have hE67_43 := (oNE67 43 (by decide)).trans hE64_43
  have hE67_44 := (oNE67 44 (by decide)).trans hE64_44
  refine v_dup C dX8_init_66 rfl ?_
  refine v_cIN C 45 dX8_init_67 (List.mem_of_getElem? (i := 3) rfl) mX4_init (k_Odds l G ad66 E67 hNE67) ⟨by decide, by decide⟩ rfl (Nat.le_of_ble_eq_true rfl) ⟨by decide, by decide⟩ (fun ad68 E69 hq70 => ?_)
  obtain ⟨hA71, hO71, hc71_45, hc71_46, hc71_47⟩ := hq70
  dsimp only at hA71 hO71 hc71_45 hc71_46 hc71_47
  have aad68_0 := hA71 0 (by decide)
  have aad68_45 := hA71 45 (by decide)
  refine v_cast (lv' := [(0, .ref (ad68 0)), (1, .int 6)]) (st' := [.ref (ad68 45), .ref (ad68 0)]) (by rw [aad68_0]) (by rw [aad68_0, aad68_45]) ?_
  have hE69_0 := (hO71 0 (by decide) (by decide)).trans hE67_0
  rw [rfo_new hA71 (by first | decide | (simp; done) | (simp; omega))] at hE69_0
  have hE69_1 := (hO71 1 (by decide) (by decide)).trans hE67_1
  rw [rfo_new hA71 (by first | decide | (simp; done) | (simp; omega))] at hE69_1
  have hE69_2 := (hO71 2 (by decide) (by decide)).trans hE67_2
  have hE69_3 := (hO71 3 (by decide) (by decide)).trans hE67_3
  have hE69_4 := (hO71 4 (by decide) (by decide)).trans hE67_4
  have hE69_5 := (hO71 5 (by decide) (by decide)).trans hE67_5
  have hE69_6 := (hO71 6 (by decide) (by decide)).trans hE67_6
  rw [rfo_new hA71 (by first | decide | (simp; done) | (simp; omega))] at hE69_6
  have hE69_7 := (hO71 7 (by decide) (by decide)).trans hE67_7
  have hE69_8 := (hO71 8 (by decide) (by decide)).trans hE67_8
  rw [rfo_new hA71 (by first | decide | (simp; done) | (simp; omega))] at hE69_8
  have hE69_9 := (hO71 9 (by decide) (by decide)).trans hE67_9
  rw [rfo_new hA71 (by first | decide | (simp; done) | (simp; omega))] at hE69_9
  have hE69_10 := (hO71 10 (by decide) (by decide)).trans hE67_10
  have hE69_11 := (hO71 11 (by decide) (by decide)).trans hE67_11
  have hE69_12 := (hO71 12 (by decide) (by decide)).trans hE67_12
  have hE69_13 := (hO71 13 (by decide) (by decide)).trans hE67_13
  have hE69_14 := (hO71 14 (by decide) (by decide)).trans hE67_14
  have hE69_15 := (hO71 15 (by decide) (by decide)).trans hE67_15
  rw [rfo_new hA71 (by first | decide | (simp; done) | (simp; omega))] at hE69_15
  have hE69_16 := (hO71 16 (by decide) (by decide)).trans hE67_16
  have hE69_17 := (hO71 17 (by decide) (by decide)).trans hE67_17
  have hE69_18 := (hO71 18 (by decide) (by decide)).trans hE67_18
  have hE69_19 := (hO71 19 (by decide) (by decide)).trans hE67_19
  have hE69_20 := (hO71 20 (by decide) (by decide)).trans hE67_20
  have hE69_21 := (hO71 21 (by decide) (by decide)).trans hE67_21
  rw [rfo_new hA71 (by first | decide | (simp; done) | (simp; omega))] at hE69_21
  have hE69_22 := (hO71 22 (by decide) (by decide)).trans hE67_22
  have hE69_23 := (hO71 23 (by decide) (by decide)).trans hE67_23
  have hE69_24 := (hO71 24 (by decide) (by decide)).trans hE67_24
  have hE69_25 := (hO71 25 (by decide) (by decide)).trans hE67_25
  have hE69_26 := (hO71 26 (by decide) (by decide)).trans hE67_26
  have hE69_27 := (hO71 27 (by decide) (by decide)).trans hE67_27
  rw [rfo_new hA71 (by first | decide | (simp; done) | (simp; omega))] at hE69_27
  have hE69_28 := (hO71 28 (by decide) (by decide)).trans hE67_28
  have hE69_29 := (hO71 29 (by decide) (by decide)).trans hE67_29
  have hE69_30 := (hO71 30 (by decide) (by decide)).trans hE67_30
  have hE69_31 := (hO71 31 (by decide) (by decide)).trans hE67_31
  have hE69_32 := (hO71 32 (by decide) (by decide)).trans hE67_32
  have hE69_33 := (hO71 33 (by decide) (by decide)).trans hE67_33
  rw [rfo_new hA71 (by first | decide | (simp; done) | (simp; omega))] at hE69_33
  have hE69_34 := (hO71 34 (by decide) (by decide)).trans hE67_34
  have hE69_35 := (hO71 35 (by decide) (by decide)).trans hE67_35
  have hE69_36 := (hO71 36 (by decide) (by decide)).trans hE67_36
  have hE69_37 := (hO71 37 (by decide) (by decide)).trans hE67_37
  have hE69_38 := (hO71 38 (by decide) (by decide)).trans hE67_38
  have hE69_39 := (hO71 39 (by decide) (by decide)).trans hE67_39
  rw [rfo_new hA71 (by first | decide | (simp; done) | (simp; omega))] at hE69_39
  have hE69_40 := (hO71 40 (by decide) (by decide)).trans hE67_40
  have hE69_41 := (hO71 41 (by decide) (by decide)).trans hE67_41
  have hE69_42 := (hO71 42 (by decide) (by decide)).trans hE67_42
  have hE69_43 := (hO71 43 (by decide) (by decide)).trans hE67_43
  have hE69_44 := (hO71 44 (by decide) (by decide)).trans hE67_44
  refine v_putr C hin 0 dX8_init_70 fX8_33 (by decide) hE69_0 rfl rfl rfl rfl rfl (fun E72 hE72_0 oE72 => ?_)
  rw [rfo_set (by first | decide | exact Nat.le_of_ble_eq_true rfl)] at hE72_0
  have hE72_1 := (oE72 1 (by decide)).trans hE69_1
  have hE72_2 := (oE72 2 (by decide)).trans hE69_2
  have hE72_3 := (oE72 3 (by decide)).trans hE69_3
  have hE72_4 := (oE72 4 (by decide)).trans hE69_4
  have hE72_5 := (oE72 5 (by decide)).trans hE69_5
  have hE72_6 := (oE72 6 (by decide)).trans hE69_6
  have hE72_7 := (oE72 7 (by decide)).trans hE69_7
  have hE72_8 := (oE72 8 (by decide)).trans hE69_8
  have hE72_9 := (oE72 9 (by decide)).trans hE69_9
  have hE72_10 := (oE72 10 (by decide)).trans hE69_10
  have hE72_11 := (oE72 11 (by decide)).trans hE69_11
  have hE72_12 := (oE72 12 (by decide)).trans hE69_12
  have hE72_13 := (oE72 13 (by decide)).trans hE69_13
  have hE72_14 := (oE72 14 (by decide)).trans hE69_14
  have hE72_15 := (oE72 15 (by decide)).trans hE69_15
  have hE72_16 := (oE72 16 (by decide)).trans hE69_16
  have hE72_17 := (oE72 17 (by decide)).trans hE69_17
  have hE72_18 := (oE72 18 (by decide)).trans hE69_18
  have hE72_19 := (oE72 19 (by decide)).trans hE69_19
  have hE72_20 := (oE72 20 (by decide)).trans hE69_20
  have hE72_21 := (oE72 21 (by decide)).trans hE69_21
  have hE72_22 := (oE72 22 (by decide)).trans hE69_22
  have hE72_23 := (oE72 23 (by decide)).trans hE69_23
  have hE72_24 := (oE72 24 (by decide)).trans hE69_24
  have hE72_25 := (oE72 25 (by decide)).trans hE69_25
  have hE72_26 := (oE72 26 (by decide)).trans hE69_26
  have hE72_27 := (oE72 27 (by decide)).trans hE69_27
  have hE72_28 := (oE72 28 (by decide)).trans hE69_28
  have hE72_29 := (oE72 29 (by decide)).trans hE69_29
  have hE72_30 := (oE72 30 (by decide)).trans hE69_30
  have hE72_31 := (oE72 31 (by decide)).trans hE69_31
  have hE72_32 := (oE72 32 (by decide)).trans hE69_32
  have hE72_33 := (oE72 33 (by decide)).trans hE69_33
  have hE72_34 := (oE72 34 (by decide)).trans hE69_34
  have hE72_35 := (oE72 35 (by decide)).trans hE69_35
  have hE72_36 := (oE72 36 (by decide)).trans hE69_36
  have hE72_37 := (oE72 37 (by decide)).trans hE69_37
  have hE72_38 := (oE72 38 (by decide)).trans hE69_38
  have hE72_39 := (oE72 39 (by decide)).trans hE69_39
  have hE72_40 := (oE72 40 (by decide)).trans hE69_40
  have hE72_41 := (oE72 41 (by decide)).trans hE69_41
  have hE72_42 := (oE72 42 (by decide)).trans hE69_42
  have hE72_43 := (oE72 43 (by decide)).trans hE69_43
  have hE72_44 := (oE72 44 (by decide)).trans hE69_44
  have hE72_45 := (oE72 45 (by decide)).trans hc71_45
  have hE72_46 := (oE72 46 (by decide)).trans hc71_46
  have hE72_47 := (oE72 47 (by decide)).trans hc71_47
  have hE72_0 : E72 0 = ob 8 (rfo ad68 [some 1, some 6, some 8, none, some 45, none, none, none]) ip0 := hE72_0
  refine v_aload_n C 0 dX8_init_73 rfl rfl ?_
  refine w_new (ci := 1) C dX8_init_74 (by decide) qX8_37 zX1 gX1 (fresh_fs (by decide)) (by decide) (by decide) (fun ad73 E74 hAE74 hNE74 oNE74 => ?_)
  have aad73_0 := hAE74 0 (by decide)
  refine v_cast (lv' := [(0, .ref (ad73 0)), (1, .int 6)]) (st' := [.ref (ad73 48), .ref (ad73 0)]) (by rw [aad73_0]) (by rw [aad73_0]) ?_
  rw [← rfo_none (ad := ad73) (k := 8)] at hNE74
  have hNE74 : E74 48 = ob 1 (rfo ad73 [none, none, none, none, none, none, none, none]) ip0 := hNE74
  have hE74_0 := (oNE74 0 (by decide)).trans hE72_0
  rw [rfo_new hAE74 (by first | decide | (simp; done) | (simp; omega))] at hE74_0
  have hE74_1 := (oNE74 1 (by decide)).trans hE72_1
  rw [rfo_new hAE74 (by first | decide | (simp; done) | (simp; omega))] at hE74_1
  have hE74_2 := (oNE74 2 (by decide)).trans hE72_2
  have hE74_3 := (oNE74 3 (by decide)).trans hE72_3
  have hE74_4 := (oNE74 4 (by decide)).trans hE72_4
  have hE74_5 := (oNE74 5 (by decide)).trans hE72_5
  have hE74_6 := (oNE74 6 (by decide)).trans hE72_6
  rw [rfo_new hAE74 (by first | decide | (simp; done) | (simp; omega))] at hE74_6
  have hE74_7 := (oNE74 7 (by decide)).trans hE72_7
  have hE74_8 := (oNE74 8 (by decide)).trans hE72_8
  rw [rfo_new hAE74 (by first | decide | (simp; done) | (simp; omega))] at hE74_8
  have hE74_9 := (oNE74 9 (by decide)).trans hE72_9
  rw [rfo_new hAE74 (by first | decide | (simp; done) | (simp; omega))] at hE74_9
  have hE74_10 := (oNE74 10 (by decide)).trans hE72_10
  have hE74_11 := (oNE74 11 (by decide)).trans hE72_11
  have hE74_12 := (oNE74 12 (by decide)).trans hE72_12
  have hE74_13 := (oNE74 13 (by decide)).trans hE72_13
  have hE74_14 := (oNE74 14 (by decide)).trans hE72_14
  have hE74_15 := (oNE74 15 (by decide)).trans hE72_15
  rw [rfo_new hAE74 (by first | decide | (simp; done) | (simp; omega))] at hE74_15
  have hE74_16 := (oNE74 16 (by decide)).trans hE72_16
  have hE74_17 := (oNE74 17 (by decide)).trans hE72_17
  have hE74_18 := (oNE74 18 (by decide)).trans hE72_18
  have hE74_19 := (oNE74 19 (by decide)).trans hE72_19
  have hE74_20 := (oNE74 20 (by decide)).trans hE72_20
  have hE74_21 := (oNE74 21 (by decide)).trans hE72_21
  rw [rfo_new hAE74 (by first | decide | (simp; done) | (simp; omega))] at hE74_21
  have hE74_22 := (oNE74 22 (by decide)).trans hE72_22
  have hE74_23 := (oNE74 23 (by decide)).trans hE72_23
  have hE74_24 := (oNE74 24 (by decide)).trans hE72_24
  have hE74_25 := (oNE74 25 (by decide)).trans hE72_25
  have hE74_26 := (oNE74 26 (by decide)).trans hE72_26
  have hE74_27 := (oNE74 27 (by decide)).trans hE72_27
  rw [rfo_new hAE74 (by first | decide | (simp; done) | (simp; omega))] at hE74_27
  have hE74_28 := (oNE74 28 (by decide)).trans hE72_28
  have hE74_29 := (oNE74 29 (by decide)).trans hE72_29
  have hE74_30 := (oNE74 30 (by decide)).trans hE72_30
  have hE74_31 := (oNE74 31 (by decide)).trans hE72_31
  have hE74_32 := (oNE74 32 (by decide)).trans hE72_32
  have hE74_33 := (oNE74 33 (by decide)).trans hE72_33
  rw [rfo_new hAE74 (by first | decide | (simp; done) | (simp; omega))] at hE74_33
  have hE74_34 := (oNE74 34 (by decide)).trans hE72_34
  have hE74_35 := (oNE74 35 (by decide)).trans hE72_35
  have hE74_36 := (oNE74 36 (by decide)).trans hE72_36
  have hE74_37 := (oNE74 37 (by decide)).trans hE72_37
  have hE74_38 := (oNE74 38 (by decide)).trans hE72_38
  have hE74_39 := (oNE74 39 (by decide)).trans hE72_39
  rw [rfo_new hAE74 (by first | decide | (simp; done) | (simp; omega))] at hE74_39
  have hE74_40 := (oNE74 40 (by decide)).trans hE72_40
  have hE74_41 := (oNE74 41 (by decide)).trans hE72_41
  have hE74_42 := (oNE74 42 (by decide)).trans hE72_42
  have hE74_43 := (oNE74 43 (by decide)).trans hE72_43
  have hE74_44 := (oNE74 44 (by decide)).trans hE72_44
  have hE74_45 := (oNE74 45 (by decide)).trans hE72_45
  rw [rfo_new hAE74 (by first | decide | (simp; done) | (simp; omega))] at hE74_45
  have hE74_46 := (oNE74 46 (by decide)).trans hE72_46
  have hE74_47 := (oNE74 47 (by decide)).trans hE72_47
  refine v_dup C dX8_init_77 rfl ?_
  refine v_aload_n C 0 dX8_init_78 rfl rfl ?_
  refine v_getr C 0 dX8_init_79 fX8_12 (by decide) hE74_0 rfl rfl ?_
  refine v_aload_n C 0 dX8_init_82 rfl rfl ?_
  refine v_getr C 0 dX8_init_83 fX8_19 (by decide) hE74_0 rfl rfl ?_
  refine v_aload_n C 0 dX8_init_86 rfl rfl ?_
  refine v_getr C 0 dX8_init_87 fX8_33 (by decide) hE74_0 rfl rfl ?_
  refine v_cI C 48 dX8_init_90 lX8_39 mX1_init (k_Judge l G ad73 E74 hNE74) ⟨by decide, by decide⟩ rfl (Nat.le_of_ble_eq_true rfl) ⟨by decide, by decide⟩ (fun ad75 E76 hq77 => ?_)
  obtain ⟨hA78, hO78, hc78_48, hc78_49, hc78_50⟩ := hq77
  dsimp only at hA78 hO78 hc78_48 hc78_49 hc78_50
  have aad75_0 := hA78 0 (by decide)
  have aad75_48 := hA78 48 (by decide)
  refine v_cast (lv' := [(0, .ref (ad75 0)), (1, .int 6)]) (st' := [.ref (ad75 48), .ref (ad75 0)]) (by rw [aad75_0]) (by rw [aad75_0, aad75_48]) ?_
  have hE76_0 := (hO78 0 (by decide) (by decide)).trans hE74_0
  rw [rfo_new hA78 (by first | decide | (simp; done) | (simp; omega))] at hE76_0
  have hE76_1 := (hO78 1 (by decide) (by decide)).trans hE74_1
  rw [rfo_new hA78 (by first | decide | (simp; done) | (simp; omega))] at hE76_1
  have hE76_2 := (hO78 2 (by decide) (by decide)).trans hE74_2
  have hE76_3 := (hO78 3 (by decide) (by decide)).trans hE74_3
  have hE76_4 := (hO78 4 (by decide) (by decide)).trans hE74_4
  have hE76_5 := (hO78 5 (by decide) (by decide)).trans hE74_5
  have hE76_6 := (hO78 6 (by decide) (by decide)).trans hE74_6
  rw [rfo_new hA78 (by first | decide | (simp; done) | (simp; omega))] at hE76_6
  have hE76_7 := (hO78 7 (by decide) (by decide)).trans hE74_7
  have hE76_8 := (hO78 8 (by decide) (by decide)).trans hE74_8
  rw [rfo_new hA78 (by first | decide | (simp; done) | (simp; omega))] at hE76_8
  have hE76_9 := (hO78 9 (by decide) (by decide)).trans hE74_9
  rw [rfo_new hA78 (by first | decide | (simp; done) | (simp; omega))] at hE76_9
  have hE76_10 := (hO78 10 (by decide) (by decide)).trans hE74_10
  have hE76_11 := (hO78 11 (by decide) (by decide)).trans hE74_11
  have hE76_12 := (hO78 12 (by decide) (by decide)).trans hE74_12
  have hE76_13 := (hO78 13 (by decide) (by decide)).trans hE74_13
  have hE76_14 := (hO78 14 (by decide) (by decide)).trans hE74_14
  have hE76_15 := (hO78 15 (by decide) (by decide)).trans hE74_15
  rw [rfo_new hA78 (by first | decide | (simp; done) | (simp; omega))] at hE76_15
  have hE76_16 := (hO78 16 (by decide) (by decide)).trans hE74_16
  have hE76_17 := (hO78 17 (by decide) (by decide)).trans hE74_17
  have hE76_18 := (hO78 18 (by decide) (by decide)).trans hE74_18
  have hE76_19 := (hO78 19 (by decide) (by decide)).trans hE74_19
  have hE76_20 := (hO78 20 (by decide) (by decide)).trans hE74_20
  have hE76_21 := (hO78 21 (by decide) (by decide)).trans hE74_21
  rw [rfo_new hA78 (by first | decide | (simp; done) | (simp; omega))] at hE76_21
  have hE76_22 := (hO78 22 (by decide) (by decide)).trans hE74_22
  have hE76_23 := (hO78 23 (by decide) (by decide)).trans hE74_23
  have hE76_24 := (hO78 24 (by decide) (by decide)).trans hE74_24
  have hE76_25 := (hO78 25 (by decide) (by decide)).trans hE74_25
  have hE76_26 := (hO78 26 (by decide) (by decide)).trans hE74_26
  have hE76_27 := (hO78 27 (by decide) (by decide)).trans hE74_27
  rw [rfo_new hA78 (by first | decide | (simp; done) | (simp; omega))] at hE76_27
  have hE76_28 := (hO78 28 (by decide) (by decide)).trans hE74_28
  have hE76_29 := (hO78 29 (by decide) (by decide)).trans hE74_29
  have hE76_30 := (hO78 30 (by decide) (by decide)).trans hE74_30
  have hE76_31 := (hO78 31 (by decide) (by decide)).trans hE74_31
  have hE76_32 := (hO78 32 (by decide) (by decide)).trans hE74_32
  have hE76_33 := (hO78 33 (by decide) (by decide)).trans hE74_33
  rw [rfo_new hA78 (by first | decide | (simp; done) | (simp; omega))] at hE76_33
  have hE76_34 := (hO78 34 (by decide) (by decide)).trans hE74_34
  have hE76_35 := (hO78 35 (by decide) (by decide)).trans hE74_35
  have hE76_36 := (hO78 36 (by decide) (by decide)).trans hE74_36
  have hE76_37 := (hO78 37 (by decide) (by decide)).trans hE74_37
  have hE76_38 := (hO78 38 (by decide) (by decide)).trans hE74_38
  have hE76_39 := (hO78 39 (by decide) (by decide)).trans hE74_39
  rw [rfo_new hA78 (by first | decide | (simp; done) | (simp; omega))] at hE76_39
  have hE76_40 := (hO78 40 (by decide) (by decide)).trans hE74_40
  have hE76_41 := (hO78 41 (by decide) (by decide)).trans hE74_41
  have hE76_42 := (hO78 42 (by decide) (by decide)).trans hE74_42
  have hE76_43 := (hO78 43 (by decide) (by decide)).trans hE74_43
  have hE76_44 := (hO78 44 (by decide) (by decide)).trans hE74_44
  have hE76_45 := (hO78 45 (by decide) (by decide)).trans hE74_45
  rw [rfo_new hA78 (by first | decide | (simp; done) | (simp; omega))] at hE76_45
  have hE76_46 := (hO78 46 (by decide) (by decide)).trans hE74_46
  have hE76_47 := (hO78 47 (by decide) (by decide)).trans hE74_47
  refine v_putr C hin 0 dX8_init_93 fX8_42 (by decide) hE76_0 rfl rfl rfl rfl rfl (fun E79 hE79_0 oE79 => ?_)
  rw [rfo_set (by first | decide | exact Nat.le_of_ble_eq_true rfl)] at hE79_0
  have hE79_1 := (oE79 1 (by decide)).trans hE76_1
  have hE79_2 := (oE79 2 (by decide)).trans hE76_2
  have hE79_3 := (oE79 3 (by decide)).trans hE76_3
  have hE79_4 := (oE79 4 (by decide)).trans hE76_4
  have hE79_5 := (oE79 5 (by decide)).trans hE76_5
  have hE79_6 := (oE79 6 (by decide)).trans hE76_6
  have hE79_7 := (oE79 7 (by decide)).trans hE76_7
  have hE79_8 := (oE79 8 (by decide)).trans hE76_8
  have hE79_9 := (oE79 9 (by decide)).trans hE76_9
  have hE79_10 := (oE79 10 (by decide)).trans hE76_10
  have hE79_11 := (oE79 11 (by decide)).trans hE76_11
  have hE79_12 := (oE79 12 (by decide)).trans hE76_12
  have hE79_13 := (oE79 13 (by decide)).trans hE76_13
  have hE79_14 := (oE79 14 (by decide)).trans hE76_14
  have hE79_15 := (oE79 15 (by decide)).trans hE76_15
  have hE79_16 := (oE79 16 (by decide)).trans hE76_16
  have hE79_17 := (oE79 17 (by decide)).trans hE76_17
  have hE79_18 := (oE79 18 (by decide)).trans hE76_18
  have hE79_19 := (oE79 19 (by decide)).trans hE76_19
  have hE79_20 := (oE79 20 (by decide)).trans hE76_20
  have hE79_21 := (oE79 21 (by decide)).trans hE76_21
  have hE79_22 := (oE79 22 (by decide)).trans hE76_22
  have hE79_23 := (oE79 23 (by decide)).trans hE76_23
  have hE79_24 := (oE79 24 (by decide)).trans hE76_24
  have hE79_25 := (oE79 25 (by decide)).trans hE76_25
  have hE79_26 := (oE79 26 (by decide)).trans hE76_26
  have hE79_27 := (oE79 27 (by decide)).trans hE76_27
  have hE79_28 := (oE79 28 (by decide)).trans hE76_28
  have hE79_29 := (oE79 29 (by decide)).trans hE76_29
  have hE79_30 := (oE79 30 (by decide)).trans hE76_30
  have hE79_31 := (oE79 31 (by decide)).trans hE76_31
  have hE79_32 := (oE79 32 (by decide)).trans hE76_32
  have hE79_33 := (oE79 33 (by decide)).trans hE76_33
  have hE79_34 := (oE79 34 (by decide)).trans hE76_34
  have hE79_35 := (oE79 35 (by decide)).trans hE76_35
  have hE79_36 := (oE79 36 (by decide)).trans hE76_36
  have hE79_37 := (oE79 37 (by decide)).trans hE76_37
  have hE79_38 := (oE79 38 (by decide)).trans hE76_38
  have hE79_39 := (oE79 39 (by decide)).trans hE76_39
  have hE79_40 := (oE79 40 (by decide)).trans hE76_40
  have hE79_41 := (oE79 41 (by decide)).trans hE76_41
  have hE79_42 := (oE79 42 (by decide)).trans hE76_42
  have hE79_43 := (oE79 43 (by decide)).trans hE76_43
  have hE79_44 := (oE79 44 (by decide)).trans hE76_44
  have hE79_45 := (oE79 45 (by decide)).trans hE76_45
  have hE79_46 := (oE79 46 (by decide)).trans hE76_46
  have hE79_47 := (oE79 47 (by decide)).trans hE76_47
  have hE79_48 := (oE79 48 (by decide)).trans hc78_48
  have hE79_49 := (oE79 49 (by decide)).trans hc78_49
  have hE79_50 := (oE79 50 (by decide)).trans hc78_50
  have hE79_0 : E79 0 = ob 8 (rfo ad75 [some 1, some 6, some 8, some 48, some 45, none, none, none]) ip0 := hE79_0
  refine v_aload_n C 0 dX8_init_96 rfl rfl ?_
  refine w_new (ci := 3) C dX8_init_97 (by decide) qX8_46 zX3 gX3 (fresh_fs (by decide)) (by decide) (by decide) (fun ad80 E81 hAE81 hNE81 oNE81 => ?_)
  have aad80_0 := hAE81 0 (by decide)
  refine v_cast (lv' := [(0, .ref (ad80 0)), (1, .int 6)]) (st' := [.ref (ad80 51), .ref (ad80 0)]) (by rw [aad80_0]) (by rw [aad80_0]) ?_
  rw [← rfo_none (ad := ad80) (k := 9)] at hNE81
  have hNE81 : E81 51 = ob 3 (rfo ad80 [none, none, none, none, none, none, none, none, none]) ip0 := hNE81
  have hE81_0 := (oNE81 0 (by decide)).trans hE79_0
  rw [rfo_new hAE81 (by first | decide | (simp; done) | (simp; omega))] at hE81_0
  have hE81_1 := (oNE81 1 (by decide)).trans hE79_1
  rw [rfo_new hAE81 (by first | decide | (simp; done) | (simp; omega))] at hE81_1
  have hE81_2 := (oNE81 2 (by decide)).trans hE79_2
  have hE81_3 := (oNE81 3 (by decide)).trans hE79_3
  have hE81_4 := (oNE81 4 (by decide)).trans hE79_4
  have hE81_5 := (oNE81 5 (by decide)).trans hE79_5
  have hE81_6 := (oNE81 6 (by decide)).trans hE79_6
  rw [rfo_new hAE81 (by first | decide | (simp; done) | (simp; omega))] at hE81_6
  have hE81_7 := (oNE81 7 (by decide)).trans hE79_7
  have hE81_8 := (oNE81 8 (by decide)).trans hE79_8
  rw [rfo_new hAE81 (by first | decide | (simp; done) | (simp; omega))] at hE81_8
  have hE81_9 := (oNE81 9 (by decide)).trans hE79_9
  rw [rfo_new hAE81 (by first | decide | (simp; done) | (simp; omega))] at hE81_9
  have hE81_10 := (oNE81 10 (by decide)).trans hE79_10
  have hE81_11 := (oNE81 11 (by decide)).trans hE79_11
  have hE81_12 := (oNE81 12 (by decide)).trans hE79_12
  have hE81_13 := (oNE81 13 (by decide)).trans hE79_13
  have hE81_14 := (oNE81 14 (by decide)).trans hE79_14
  have hE81_15 := (oNE81 15 (by decide)).trans hE79_15
  rw [rfo_new hAE81 (by first | decide | (simp; done) | (simp; omega))] at hE81_15
  have hE81_16 := (oNE81 16 (by decide)).trans hE79_16
  have hE81_17 := (oNE81 17 (by decide)).trans hE79_17
  have hE81_18 := (oNE81 18 (by decide)).trans hE79_18
  have hE81_19 := (oNE81 19 (by decide)).trans hE79_19
  have hE81_20 := (oNE81 20 (by decide)).trans hE79_20
  have hE81_21 := (oNE81 21 (by decide)).trans hE79_21
  rw [rfo_new hAE81 (by first | decide | (simp; done) | (simp; omega))] at hE81_21
  have hE81_22 := (oNE81 22 (by decide)).trans hE79_22
  have hE81_23 := (oNE81 23 (by decide)).trans hE79_23
  have hE81_24 := (oNE81 24 (by decide)).trans hE79_24
  have hE81_25 := (oNE81 25 (by decide)).trans hE79_25
  have hE81_26 := (oNE81 26 (by decide)).trans hE79_26
  have hE81_27 := (oNE81 27 (by decide)).trans hE79_27
  rw [rfo_new hAE81 (by first | decide | (simp; done) | (simp; omega))] at hE81_27
  have hE81_28 := (oNE81 28 (by decide)).trans hE79_28
  have hE81_29 := (oNE81 29 (by decide)).trans hE79_29
  have hE81_30 := (oNE81 30 (by decide)).trans hE79_30
  have hE81_31 := (oNE81 31 (by decide)).trans hE79_31
  have hE81_32 := (oNE81 32 (by decide)).trans hE79_32
  have hE81_33 := (oNE81 33 (by decide)).trans hE79_33
  rw [rfo_new hAE81 (by first | decide | (simp; done) | (simp; omega))] at hE81_33
  have hE81_34 := (oNE81 34 (by decide)).trans hE79_34
  have hE81_35 := (oNE81 35 (by decide)).trans hE79_35
  have hE81_36 := (oNE81 36 (by decide)).trans hE79_36
  have hE81_37 := (oNE81 37 (by decide)).trans hE79_37
  have hE81_38 := (oNE81 38 (by decide)).trans hE79_38
  have hE81_39 := (oNE81 39 (by decide)).trans hE79_39
  rw [rfo_new hAE81 (by first | decide | (simp; done) | (simp; omega))] at hE81_39
  have hE81_40 := (oNE81 40 (by decide)).trans hE79_40
  have hE81_41 := (oNE81 41 (by decide)).trans hE79_41
  have hE81_42 := (oNE81 42 (by decide)).trans hE79_42
  have hE81_43 := (oNE81 43 (by decide)).trans hE79_43
  have hE81_44 := (oNE81 44 (by decide)).trans hE79_44
  have hE81_45 := (oNE81 45 (by decide)).trans hE79_45
  rw [rfo_new hAE81 (by first | decide | (simp; done) | (simp; omega))] at hE81_45
  have hE81_46 := (oNE81 46 (by decide)).trans hE79_46
  have hE81_47 := (oNE81 47 (by decide)).trans hE79_47
  have hE81_48 := (oNE81 48 (by decide)).trans hE79_48
  rw [rfo_new hAE81 (by first | decide | (simp; done) | (simp; omega))] at hE81_48
  have hE81_49 := (oNE81 49 (by decide)).trans hE79_49
  rw [rfo_new hAE81 (by first | decide | (simp; done) | (simp; omega))] at hE81_49
  have hE81_50 := (oNE81 50 (by decide)).trans hE79_50
  refine v_dup C dX8_init_100 rfl ?_
  refine v_aload_n C 0 dX8_init_101 rfl rfl ?_
  refine v_getr C 0 dX8_init_102 fX8_19 (by decide) hE81_0 rfl rfl ?_
  refine v_aload_n C 0 dX8_init_105 rfl rfl ?_
  refine v_getr C 0 dX8_init_106 fX8_42 (by decide) hE81_0 rfl rfl ?_
  refine v_cI C 51 dX8_init_109 lX8_48 mX3_init (k_Mender l G ad80 E81 hNE81) ⟨by decide, by decide⟩ rfl (Nat.le_of_ble_eq_true rfl) ⟨by decide, by decide⟩ (fun ad82 E83 hq84 => ?_)
  obtain ⟨hA85, hO85, hc85_51, hc85_52, hc85_53, hc85_54, hc85_55, hc85_56, hc85_57, hc85_58, hc85_59, hc85_60, hc85_61, hc85_62, hc85_63, hc85_64, hc85_65, hc85_66, hc85_67⟩ := hq84
  dsimp only at hA85 hO85 hc85_51 hc85_52 hc85_53 hc85_54 hc85_55 hc85_56 hc85_57 hc85_58 hc85_59 hc85_60 hc85_61 hc85_62 hc85_63 hc85_64 hc85_65 hc85_66 hc85_67
  have aad82_0 := hA85 0 (by decide)
  have aad82_51 := hA85 51 (by decide)
  refine v_cast (lv' := [(0, .ref (ad82 0)), (1, .int 6)]) (st' := [.ref (ad82 51), .ref (ad82 0)]) (by rw [aad82_0]) (by rw [aad82_0, aad82_51]) ?_
  have hE83_0 := (hO85 0 (by decide) (by decide)).trans hE81_0
  rw [rfo_new hA85 (by first | decide | (simp; done) | (simp; omega))] at hE83_0
  have hE83_1 := (hO85 1 (by decide) (by decide)).trans hE81_1
  rw [rfo_new hA85 (by first | decide | (simp; done) | (simp; omega))] at hE83_1
  have hE83_2 := (hO85 2 (by decide) (by decide)).trans hE81_2
  have hE83_3 := (hO85 3 (by decide) (by decide)).trans hE81_3
  have hE83_4 := (hO85 4 (by decide) (by decide)).trans hE81_4
  have hE83_5 := (hO85 5 (by decide) (by decide)).trans hE81_5
  have hE83_6 := (hO85 6 (by decide) (by decide)).trans hE81_6
  rw [rfo_new hA85 (by first | decide | (simp; done) | (simp; omega))] at hE83_6
  have hE83_7 := (hO85 7 (by decide) (by decide)).trans hE81_7
  have hE83_8 := (hO85 8 (by decide) (by decide)).trans hE81_8
  rw [rfo_new hA85 (by first | decide | (simp; done) | (simp; omega))] at hE83_8
  have hE83_9 := (hO85 9 (by decide) (by decide)).trans hE81_9
  rw [rfo_new hA85 (by first | decide | (simp; done) | (simp; omega))] at hE83_9
  have hE83_10 := (hO85 10 (by decide) (by decide)).trans hE81_10
  have hE83_11 := (hO85 11 (by decide) (by decide)).trans hE81_11
  have hE83_12 := (hO85 12 (by decide) (by decide)).trans hE81_12
  have hE83_13 := (hO85 13 (by decide) (by decide)).trans hE81_13
  have hE83_14 := (hO85 14 (by decide) (by decide)).trans hE81_14
  have hE83_15 := (hO85 15 (by decide) (by decide)).trans hE81_15
  rw [rfo_new hA85 (by first | decide | (simp; done) | (simp; omega))] at hE83_15
  have hE83_16 := (hO85 16 (by decide) (by decide)).trans hE81_16
  have hE83_17 := (hO85 17 (by decide) (by decide)).trans hE81_17
  have hE83_18 := (hO85 18 (by decide) (by decide)).trans hE81_18
  have hE83_19 := (hO85 19 (by decide) (by decide)).trans hE81_19
  have hE83_20 := (hO85 20 (by decide) (by decide)).trans hE81_20
  have hE83_21 := (hO85 21 (by decide) (by decide)).trans hE81_21
  rw [rfo_new hA85 (by first | decide | (simp; done) | (simp; omega))] at hE83_21
  have hE83_22 := (hO85 22 (by decide) (by decide)).trans hE81_22
  have hE83_23 := (hO85 23 (by decide) (by decide)).trans hE81_23
  have hE83_24 := (hO85 24 (by decide) (by decide)).trans hE81_24
  have hE83_25 := (hO85 25 (by decide) (by decide)).trans hE81_25
  have hE83_26 := (hO85 26 (by decide) (by decide)).trans hE81_26
  have hE83_27 := (hO85 27 (by decide) (by decide)).trans hE81_27
  rw [rfo_new hA85 (by first | decide | (simp; done) | (simp; omega))] at hE83_27
  have hE83_28 := (hO85 28 (by decide) (by decide)).trans hE81_28
  have hE83_29 := (hO85 29 (by decide) (by decide)).trans hE81_29
  have hE83_30 := (hO85 30 (by decide) (by decide)).trans hE81_30
  have hE83_31 := (hO85 31 (by decide) (by decide)).trans hE81_31
  have hE83_32 := (hO85 32 (by decide) (by decide)).trans hE81_32
  have hE83_33 := (hO85 33 (by decide) (by decide)).trans hE81_33
  rw [rfo_new hA85 (by first | decide | (simp; done) | (simp; omega))] at hE83_33
  have hE83_34 := (hO85 34 (by decide) (by decide)).trans hE81_34
  have hE83_35 := (hO85 35 (by decide) (by decide)).trans hE81_35
  have hE83_36 := (hO85 36 (by decide) (by decide)).trans hE81_36
  have hE83_37 := (hO85 37 (by decide) (by decide)).trans hE81_37
  have hE83_38 := (hO85 38 (by decide) (by decide)).trans hE81_38
  have hE83_39 := (hO85 39 (by decide) (by decide)).trans hE81_39
  rw [rfo_new hA85 (by first | decide | (simp; done) | (simp; omega))] at hE83_39
  have hE83_40 := (hO85 40 (by decide) (by decide)).trans hE81_40
  have hE83_41 := (hO85 41 (by decide) (by decide)).trans hE81_41
  have hE83_42 := (hO85 42 (by decide) (by decide)).trans hE81_42
  have hE83_43 := (hO85 43 (by decide) (by decide)).trans hE81_43
  have hE83_44 := (hO85 44 (by decide) (by decide)).trans hE81_44
  have hE83_45 := (hO85 45 (by decide) (by decide)).trans hE81_45
  rw [rfo_new hA85 (by first | decide | (simp; done) | (simp; omega))] at hE83_45
  have hE83_46 := (hO85 46 (by decide) (by decide)).trans hE81_46
  have hE83_47 := (hO85 47 (by decide) (by decide)).trans hE81_47
  have hE83_48 := (hO85 48 (by decide) (by decide)).trans hE81_48
  rw [rfo_new hA85 (by first | decide | (simp; done) | (simp; omega))] at hE83_48
  have hE83_49 := (hO85 49 (by decide) (by decide)).trans hE81_49
  rw [rfo_new hA85 (by first | decide | (simp; done) | (simp; omega))] at hE83_49
  have hE83_50 := (hO85 50 (by decide) (by decide)).trans hE81_50
  refine v_putr C hin 0 dX8_init_112 fX8_51 (by decide) hE83_0 rfl rfl rfl rfl rfl (fun E86 hE86_0 oE86 => ?_)
  rw [rfo_set (by first | decide | exact Nat.le_of_ble_eq_true rfl)] at hE86_0
  have hE86_1 := (oE86 1 (by decide)).trans hE83_1
  have hE86_2 := (oE86 2 (by decide)).trans hE83_2
  have hE86_3 := (oE86 3 (by decide)).trans hE83_3
  have hE86_4 := (oE86 4 (by decide)).trans hE83_4
  have hE86_5 := (oE86 5 (by decide)).trans hE83_5
  have hE86_6 := (oE86 6 (by decide)).trans hE83_6
  have hE86_7 := (oE86 7 (by decide)).trans hE83_7
  have hE86_8 := (oE86 8 (by decide)).trans hE83_8
  have hE86_9 := (oE86 9 (by decide)).trans hE83_9
  have hE86_10 := (oE86 10 (by decide)).trans hE83_10
  have hE86_11 := (oE86 11 (by decide)).trans hE83_11
  have hE86_12 := (oE86 12 (by decide)).trans hE83_12
  have hE86_13 := (oE86 13 (by decide)).trans hE83_13
  have hE86_14 := (oE86 14 (by decide)).trans hE83_14
  have hE86_15 := (oE86 15 (by decide)).trans hE83_15
  have hE86_16 := (oE86 16 (by decide)).trans hE83_16
  have hE86_17 := (oE86 17 (by decide)).trans hE83_17
  have hE86_18 := (oE86 18 (by decide)).trans hE83_18
  have hE86_19 := (oE86 19 (by decide)).trans hE83_19
  have hE86_20 := (oE86 20 (by decide)).trans hE83_20
  have hE86_21 := (oE86 21 (by decide)).trans hE83_21
  have hE86_22 := (oE86 22 (by decide)).trans hE83_22
  have hE86_23 := (oE86 23 (by decide)).trans hE83_23
  have hE86_24 := (oE86 24 (by decide)).trans hE83_24
  have hE86_25 := (oE86 25 (by decide)).trans hE83_25
  have hE86_26 := (oE86 26 (by decide)).trans hE83_26
  have hE86_27 := (oE86 27 (by decide)).trans hE83_27
  have hE86_28 := (oE86 28 (by decide)).trans hE83_28
  have hE86_29 := (oE86 29 (by decide)).trans hE83_29
  have hE86_30 := (oE86 30 (by decide)).trans hE83_30
  have hE86_31 := (oE86 31 (by decide)).trans hE83_31
  have hE86_32 := (oE86 32 (by decide)).trans hE83_32
  have hE86_33 := (oE86 33 (by decide)).trans hE83_33
  have hE86_34 := (oE86 34 (by decide)).trans hE83_34
  have hE86_35 := (oE86 35 (by decide)).trans hE83_35
  have hE86_36 := (oE86 36 (by decide)).trans hE83_36
  have hE86_37 := (oE86 37 (by decide)).trans hE83_37
  have hE86_38 := (oE86 38 (by decide)).trans hE83_38
  have hE86_39 := (oE86 39 (by decide)).trans hE83_39
  have hE86_40 := (oE86 40 (by decide)).trans hE83_40
  have hE86_41 := (oE86 41 (by decide)).trans hE83_41
  have hE86_42 := (oE86 42 (by decide)).trans hE83_42
  have hE86_43 := (oE86 43 (by decide)).trans hE83_43
  have hE86_44 := (oE86 44 (by decide)).trans hE83_44
  have hE86_45 := (oE86 45 (by decide)).trans hE83_45
  have hE86_46 := (oE86 46 (by decide)).trans hE83_46
  have hE86_47 := (oE86 47 (by decide)).trans hE83_47
  have hE86_48 := (oE86 48 (by decide)).trans hE83_48
  have hE86_49 := (oE86 49 (by decide)).trans hE83_49
  have hE86_50 := (oE86 50 (by decide)).trans hE83_50
  have hE86_51 := (oE86 51 (by decide)).trans hc85_51
  have hE86_52 := (oE86 52 (by decide)).trans hc85_52
  have hE86_53 := (oE86 53 (by decide)).trans hc85_53
  have hE86_54 := (oE86 54 (by decide)).trans hc85_54
  have hE86_55 := (oE86 55 (by decide)).trans hc85_55
  have hE86_56 := (oE86 56 (by decide)).trans hc85_56
  have hE86_57 := (oE86 57 (by decide)).trans hc85_57
  have hE86_58 := (oE86 58 (by decide)).trans hc85_58
  have hE86_59 := (oE86 59 (by decide)).trans hc85_59
  have hE86_60 := (oE86 60 (by decide)).trans hc85_60
  have hE86_61 := (oE86 61 (by decide)).trans hc85_61
  have hE86_62 := (oE86 62 (by decide)).trans hc85_62
  have hE86_63 := (oE86 63 (by decide)).trans hc85_63
  have hE86_64 := (oE86 64 (by decide)).trans hc85_64
  have hE86_65 := (oE86 65 (by decide)).trans hc85_65
  have hE86_66 := (oE86 66 (by decide)).trans hc85_66
  have hE86_67 := (oE86 67 (by decide)).trans hc85_67
  have hE86_0 : E86 0 = ob 8 (rfo ad82 [some 1, some 6, some 8, some 48, some 45, some 51, none, none]) ip0 := hE86_0
  refine v_aload_n C 0 dX8_init_115 rfl rfl ?_
  refine v_ldc C dX8_init_116 kX8_55 ?_
  refine v_puti C 0 dX8_init_118 fX8_56 (by decide) hE86_0 rfl rfl rfl rfl (fun E87 hE87_0 oE87 => ?_)
  have hE87_1 := (oE87 1 (by decide)).trans hE86_1
  have hE87_2 := (oE87 2 (by decide)).trans hE86_2
  have hE87_3 := (oE87 3 (by decide)).trans hE86_3
  have hE87_4 := (oE87 4 (by decide)).trans hE86_4
  have hE87_5 := (oE87 5 (by decide)).trans hE86_5
  have hE87_6 := (oE87 6 (by decide)).trans hE86_6
  have hE87_7 := (oE87 7 (by decide)).trans hE86_7
  have hE87_8 := (oE87 8 (by decide)).trans hE86_8
  have hE87_9 := (oE87 9 (by decide)).trans hE86_9
  have hE87_10 := (oE87 10 (by decide)).trans hE86_10
  have hE87_11 := (oE87 11 (by decide)).trans hE86_11
  have hE87_12 := (oE87 12 (by decide)).trans hE86_12
  have hE87_13 := (oE87 13 (by decide)).trans hE86_13
  have hE87_14 := (oE87 14 (by decide)).trans hE86_14
  have hE87_15 := (oE87 15 (by decide)).trans hE86_15
  have hE87_16 := (oE87 16 (by decide)).trans hE86_16
  have hE87_17 := (oE87 17 (by decide)).trans hE86_17
  have hE87_18 := (oE87 18 (by decide)).trans hE86_18
  have hE87_19 := (oE87 19 (by decide)).trans hE86_19
  have hE87_20 := (oE87 20 (by decide)).trans hE86_20
  have hE87_21 := (oE87 21 (by decide)).trans hE86_21
  have hE87_22 := (oE87 22 (by decide)).trans hE86_22
  have hE87_23 := (oE87 23 (by decide)).trans hE86_23
  have hE87_24 := (oE87 24 (by decide)).trans hE86_24
  have hE87_25 := (oE87 25 (by decide)).trans hE86_25
  have hE87_26 := (oE87 26 (by decide)).trans hE86_26
  have hE87_27 := (oE87 27 (by decide)).trans hE86_27
  have hE87_28 := (oE87 28 (by decide)).trans hE86_28
  have hE87_29 := (oE87 29 (by decide)).trans hE86_29
  have hE87_30 := (oE87 30 (by decide)).trans hE86_30
  have hE87_31 := (oE87 31 (by decide)).trans hE86_31
  have hE87_32 := (oE87 32 (by decide)).trans hE86_32
  have hE87_33 := (oE87 33 (by decide)).trans hE86_33
  have hE87_34 := (oE87 34 (by decide)).trans hE86_34
  have hE87_35 := (oE87 35 (by decide)).trans hE86_35
  have hE87_36 := (oE87 36 (by decide)).trans hE86_36
  have hE87_37 := (oE87 37 (by decide)).trans hE86_37
  have hE87_38 := (oE87 38 (by decide)).trans hE86_38
  have hE87_39 := (oE87 39 (by decide)).trans hE86_39
  have hE87_40 := (oE87 40 (by decide)).trans hE86_40
  have hE87_41 := (oE87 41 (by decide)).trans hE86_41
  have hE87_42 := (oE87 42 (by decide)).trans hE86_42
  have hE87_43 := (oE87 43 (by decide)).trans hE86_43
  have hE87_44 := (oE87 44 (by decide)).trans hE86_44
  have hE87_45 := (oE87 45 (by decide)).trans hE86_45
  have hE87_46 := (oE87 46 (by decide)).trans hE86_46
  have hE87_47 := (oE87 47 (by decide)).trans hE86_47
  have hE87_48 := (oE87 48 (by decide)).trans hE86_48
  have hE87_49 := (oE87 49 (by decide)).trans hE86_49
  have hE87_50 := (oE87 50 (by decide)).trans hE86_50
  have hE87_51 := (oE87 51 (by decide)).trans hE86_51
  have hE87_52 := (oE87 52 (by decide)).trans hE86_52
  have hE87_53 := (oE87 53 (by decide)).trans hE86_53
  have hE87_54 := (oE87 54 (by decide)).trans hE86_54
  have hE87_55 := (oE87 55 (by decide)).trans hE86_55
  have hE87_56 := (oE87 56 (by decide)).trans hE86_56
  have hE87_57 := (oE87 57 (by decide)).trans hE86_57
  have hE87_58 := (oE87 58 (by decide)).trans hE86_58
  have hE87_59 := (oE87 59 (by decide)).trans hE86_59
  have hE87_60 := (oE87 60 (by decide)).trans hE86_60
  have hE87_61 := (oE87 61 (by decide)).trans hE86_61
  have hE87_62 := (oE87 62 (by decide)).trans hE86_62
  have hE87_63 := (oE87 63 (by decide)).trans hE86_63
  have hE87_64 := (oE87 64 (by decide)).trans hE86_64
  have hE87_65 := (oE87 65 (by decide)).trans hE86_65
  have hE87_66 := (oE87 66 (by decide)).trans hE86_66
  have hE87_67 := (oE87 67 (by decide)).trans hE86_67
  exact v_nret C dX8_init_121 rfl rfl rfl rfl ⟨(fun j hj => ((hA85 j (by omega)).trans ((hAE81 j (by omega)).trans ((hA78 j (by omega)).trans ((hAE74 j (by omega)).trans ((hA71 j (by omega)).trans ((hAE67 j (by omega)).trans ((hA63 j (by omega)).trans ((hAE59 j (by omega)).trans ((hA55 j (by omega)).trans ((hAE51 j (by omega)).trans ((hA47 j (by omega)).trans ((hAE43 j (by omega)).trans ((hA39 j (by omega)).trans ((hAE35 j (by omega)).trans ((hA31 j (by omega)).trans ((hAE27 j (by omega)).trans ((hA23 j (by omega)).trans ((hAE19 j (by omega)).trans ((hAE15 j (by omega)).trans ((hA12 j (by omega)).trans ((hAE8 j (by omega)).trans ((hAc j (by omega)).trans (hAE2 j (by omega))))))))))))))))))))))))), (fun j hj hne => ((oE87 j hne).trans ((oE86 j hne).trans ((hO85 j (by omega) (by omega)).trans ((oNE81 j (by omega)).trans ((oE79 j hne).trans ((hO78 j (by omega) (by omega)).trans ((oNE74 j (by omega)).trans ((oE72 j hne).trans ((hO71 j (by omega) (by omega)).trans ((oNE67 j (by omega)).trans ((oE64 j (by omega)).trans ((hO63 j (by omega) (by omega)).trans ((oNE59 j (by omega)).trans ((oE56 j (by omega)).trans ((hO55 j (by omega) (by omega)).trans ((oNE51 j (by omega)).trans ((oE48 j (by omega)).trans ((hO47 j (by omega) (by omega)).trans ((oNE43 j (by omega)).trans ((oE40 j (by omega)).trans ((hO39 j (by omega) (by omega)).trans ((oNE35 j (by omega)).trans ((oE32 j (by omega)).trans ((hO31 j (by omega) (by omega)).trans ((oNE27 j (by omega)).trans ((oE24 j (by omega)).trans ((hO23 j (by omega) (by omega)).trans ((oNE19 j (by omega)).trans ((oE16 j hne).trans ((oNE15 j (by omega)).trans ((oE13 j hne).trans ((hO12 j (by omega) (by omega)).trans ((oNE8 j (by omega)).trans ((oE6 j hne).trans ((hOc j (by omega) (by omega)).trans (oNE2 j (by omega)))))))))))))))))))))))))))))))))))))), ⟨hE87_0.trans rfl, ⟨ms1, ld1, ys1, hE87_1.trans rfl, hE87_2, hE87_3, hE87_4, hE87_5, cal0, hkF⟩, hE87_6.trans rfl, hE87_7, hE87_8, (fun i hi => by match i, hi with | 0, _ => exact (show Pf G ad82 E87 9 from ⟨hE87_9.trans rfl, hE87_10, hE87_11, hE87_12, hE87_13, hE87_14⟩) | 1, _ => exact (show Pf G ad82 E87 15 from ⟨hE87_15.trans rfl, hE87_16, hE87_17, hE87_18, hE87_19, hE87_20⟩) | 2, _ => exact (show Pf G ad82 E87 21 from ⟨hE87_21.trans rfl, hE87_22, hE87_23, hE87_24, hE87_25, hE87_26⟩) | 3, _ => exact (show Pf G ad82 E87 27 from ⟨hE87_27.trans rfl, hE87_28, hE87_29, hE87_30, hE87_31, hE87_32⟩) | 4, _ => exact (show Pf G ad82 E87 33 from ⟨hE87_33.trans rfl, hE87_34, hE87_35, hE87_36, hE87_37, hE87_38⟩) | 5, _ => exact (show Pf G ad82 E87 39 from ⟨hE87_39.trans rfl, hE87_40, hE87_41, hE87_42, hE87_43, hE87_44⟩)), hE87_45.trans rfl, hE87_46, hE87_47, hE87_48.trans rfl, hE87_49.trans rfl, hE87_50, hE87_51.trans rfl, ⟨hE87_52.trans rfl, hE87_53, hE87_54, hE87_55, hE87_56, hE87_57⟩, ⟨hE87_58.trans rfl, hE87_59, hE87_60, hE87_61, hE87_62, hE87_63⟩, hE87_64, hE87_65, hE87_66, hE87_67⟩⟩

