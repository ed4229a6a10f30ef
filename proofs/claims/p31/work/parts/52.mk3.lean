set_option maxRecDepth 20000 in
theorem fin9 (ad : Nat → Nat) (x : va_E) (h : x = ob 9 (rfo ad [some 69, none, none, none, none, none, some 70, none, some 71, some 72, some 73, some 74, some 75, some 76, some 77, some 78, none, none, none, some 79, some 80, some 81, some 82, some 83, some 84, some 85, some 86, some 87, some 88, some 89, some 90, some 91, none, some 92, some 93, none, some 94, some 95, some 96, none, some 97, none]) (va_up (va_up (va_up (va_up (va_up ip0 1 4) 2 100) 3 1) 4 7) 18 99999)) : x = ob 9 (rX9 ad) im0 := h.trans rfl
set_option maxRecDepth 20000 in
theorem k_Model (l : Launch) (G : Gl) (ad : Nat → Nat) (E : Nat → va_E) (hEb : E 68 = ob 9 (rfo ad [none, none, none, none, none, none, none, none, none, none, none, none, none, none, none, none, none, none, none, none, none, none, none, none, none, none, none, none, none, none, none, none, none, none, none, none, none, none, none, none, none, none]) ip0)  : CtN l G yX9_init cX9_init 2 1 16 29 51345 69 98 ad E [.ref (ad 68)] (fun u => (∀ j, j < 69 → u.1 j = ad j) ∧ (∀ j, j < 69 → j ≠ 68 → u.2 j = E j) ∧ FreshM G u.1 u.2) := by
  refine CtN.of (by decide) (Nat.le_of_ble_eq_true rfl) (fun X A hin C => ?_)
  refine v_sub (lv' := [(0, .ref (ad 68))]) [0] rfl ?_
  refine v_aload_n C 0 dX9_init_0 rfl rfl ?_
  refine v_obj C dX9_init_1 lX9_3 oi_inst oi_code ⟨by decide, by decide⟩ ?_
  refine v_aload_n C 0 dX9_init_4 rfl rfl ?_
  refine v_bipush (v := 12) C dX9_init_5 (by decide) ?_
  refine w_newI (N := 12) C dX9_init_7 ac_int (by decide) (by decide) (by decide) (by decide) (by decide) (fun ad1 E2 hAE2 hNE2 oNE2 => ?_)
  have aad1_68 := hAE2 68 (by decide)
  refine v_cast (lv' := [(0, .ref (ad1 68))]) (st' := [.ref (ad1 69), .ref (ad1 68)]) (by rw [aad1_68]) (by rw [aad1_68]) ?_
  have hNE2 : E2 69 = _ := hNE2
  have hE2_68 := (oNE2 68 (by decide)).trans hEb
  rw [rfo_new hAE2 (by first | decide | (simp; done) | (simp; omega))] at hE2_68
  refine v_putr C hin 68 dX9_init_9 fX9_9 (by decide) hE2_68 rfl rfl rfl rfl rfl (fun E3 hE3_68 oE3 => ?_)
  rw [rfo_set (by first | decide | exact Nat.le_of_ble_eq_true rfl)] at hE3_68
  have hE3_69 := (oE3 69 (by decide)).trans hNE2
  have hE3_68 : E3 68 = ob 9 (rfo ad1 [some 69, none, none, none, none, none, none, none, none, none, none, none, none, none, none, none, none, none, none, none, none, none, none, none, none, none, none, none, none, none, none, none, none, none, none, none, none, none, none, none, none, none]) ip0 := hE3_68
  refine v_aload_n C 0 dX9_init_12 rfl rfl ?_
  refine v_iconst (v := 4) C dX9_init_13 (by decide) ?_
  refine v_puti C 68 dX9_init_14 fX9_13 (by decide) hE3_68 rfl rfl rfl rfl (fun E4 hE4_68 oE4 => ?_)
  have hE4_69 := (oE4 69 (by decide)).trans hE3_69
  refine v_aload_n C 0 dX9_init_17 rfl rfl ?_
  refine v_bipush (v := 100) C dX9_init_18 (by decide) ?_
  refine v_puti C 68 dX9_init_20 fX9_17 (by decide) hE4_68 rfl rfl rfl rfl (fun E5 hE5_68 oE5 => ?_)
  have hE5_69 := (oE5 69 (by decide)).trans hE4_69
  refine v_aload_n C 0 dX9_init_23 rfl rfl ?_
  refine v_iconst (v := 1) C dX9_init_24 (by decide) ?_
  refine v_puti C 68 dX9_init_25 fX9_20 (by decide) hE5_68 rfl rfl rfl rfl (fun E6 hE6_68 oE6 => ?_)
  have hE6_69 := (oE6 69 (by decide)).trans hE5_69
  refine v_aload_n C 0 dX9_init_28 rfl rfl ?_
  refine v_bipush (v := 7) C dX9_init_29 (by decide) ?_
  refine v_puti C 68 dX9_init_31 fX9_23 (by decide) hE6_68 rfl rfl rfl rfl (fun E7 hE7_68 oE7 => ?_)
  have hE7_69 := (oE7 69 (by decide)).trans hE6_69
  refine v_aload_n C 0 dX9_init_34 rfl rfl ?_
  refine v_sipush (v := 1201) C dX9_init_35 (by decide) ?_
  refine w_newI (N := 1201) C dX9_init_38 ac_int (by decide) (by decide) (by decide) (by decide) (by decide) (fun ad8 E9 hAE9 hNE9 oNE9 => ?_)
  have aad8_68 := hAE9 68 (by decide)
  refine v_cast (lv' := [(0, .ref (ad8 68))]) (st' := [.ref (ad8 70), .ref (ad8 68)]) (by rw [aad8_68]) (by rw [aad8_68]) ?_
  have hNE9 : E9 70 = _ := hNE9
  have hE9_68 := (oNE9 68 (by decide)).trans hE7_68
  rw [rfo_new hAE9 (by first | decide | (simp; done) | (simp; omega))] at hE9_68
  have hE9_69 := (oNE9 69 (by decide)).trans hE7_69
  refine v_putr C hin 68 dX9_init_40 fX9_26 (by decide) hE9_68 rfl rfl rfl rfl rfl (fun E10 hE10_68 oE10 => ?_)
  rw [rfo_set (by first | decide | exact Nat.le_of_ble_eq_true rfl)] at hE10_68
  have hE10_69 := (oE10 69 (by decide)).trans hE9_69
  have hE10_70 := (oE10 70 (by decide)).trans hNE9
  have hE10_68 : E10 68 = ob 9 (rfo ad8 [some 69, none, none, none, none, none, some 70, none, none, none, none, none, none, none, none, none, none, none, none, none, none, none, none, none, none, none, none, none, none, none, none, none, none, none, none, none, none, none, none, none, none, none]) (va_up (va_up (va_up (va_up ip0 1 4) 2 100) 3 1) 4 7) := hE10_68
  refine v_aload_n C 0 dX9_init_43 rfl rfl ?_
  refine v_iconst (v := 5) C dX9_init_44 (by decide) ?_
  refine w_newI (N := 5) C dX9_init_45 ac_int (by decide) (by decide) (by decide) (by decide) (by decide) (fun ad11 E12 hAE12 hNE12 oNE12 => ?_)
  have aad11_68 := hAE12 68 (by decide)
  refine v_cast (lv' := [(0, .ref (ad11 68))]) (st' := [.ref (ad11 71), .ref (ad11 68)]) (by rw [aad11_68]) (by rw [aad11_68]) ?_
  have hNE12 : E12 71 = _ := hNE12
  have hE12_68 := (oNE12 68 (by decide)).trans hE10_68
  rw [rfo_new hAE12 (by first | decide | (simp; done) | (simp; omega))] at hE12_68
  have hE12_69 := (oNE12 69 (by decide)).trans hE10_69
  have hE12_70 := (oNE12 70 (by decide)).trans hE10_70
  refine v_putr C hin 68 dX9_init_47 fX9_29 (by decide) hE12_68 rfl rfl rfl rfl rfl (fun E13 hE13_68 oE13 => ?_)
  rw [rfo_set (by first | decide | exact Nat.le_of_ble_eq_true rfl)] at hE13_68
  have hE13_69 := (oE13 69 (by decide)).trans hE12_69
  have hE13_70 := (oE13 70 (by decide)).trans hE12_70
  have hE13_71 := (oE13 71 (by decide)).trans hNE12
  have hE13_68 : E13 68 = ob 9 (rfo ad11 [some 69, none, none, none, none, none, some 70, none, some 71, none, none, none, none, none, none, none, none, none, none, none, none, none, none, none, none, none, none, none, none, none, none, none, none, none, none, none, none, none, none, none, none, none]) (va_up (va_up (va_up (va_up ip0 1 4) 2 100) 3 1) 4 7) := hE13_68
  refine v_aload_n C 0 dX9_init_50 rfl rfl ?_
  refine v_bipush (v := 40) C dX9_init_51 (by decide) ?_
  refine w_newI (N := 40) C dX9_init_53 ac_int (by decide) (by decide) (by decide) (by decide) (by decide) (fun ad14 E15 hAE15 hNE15 oNE15 => ?_)
  have aad14_68 := hAE15 68 (by decide)
  refine v_cast (lv' := [(0, .ref (ad14 68))]) (st' := [.ref (ad14 72), .ref (ad14 68)]) (by rw [aad14_68]) (by rw [aad14_68]) ?_
  have hNE15 : E15 72 = _ := hNE15
  have hE15_68 := (oNE15 68 (by decide)).trans hE13_68
  rw [rfo_new hAE15 (by first | decide | (simp; done) | (simp; omega))] at hE15_68
  have hE15_69 := (oNE15 69 (by decide)).trans hE13_69
  have hE15_70 := (oNE15 70 (by decide)).trans hE13_70
  have hE15_71 := (oNE15 71 (by decide)).trans hE13_71
  refine v_putr C hin 68 dX9_init_55 fX9_32 (by decide) hE15_68 rfl rfl rfl rfl rfl (fun E16 hE16_68 oE16 => ?_)
  rw [rfo_set (by first | decide | exact Nat.le_of_ble_eq_true rfl)] at hE16_68
  have hE16_69 := (oE16 69 (by decide)).trans hE15_69
  have hE16_70 := (oE16 70 (by decide)).trans hE15_70
  have hE16_71 := (oE16 71 (by decide)).trans hE15_71
  have hE16_72 := (oE16 72 (by decide)).trans hNE15
  have hE16_68 : E16 68 = ob 9 (rfo ad14 [some 69, none, none, none, none, none, some 70, none, some 71, some 72, none, none, none, none, none, none, none, none, none, none, none, none, none, none, none, none, none, none, none, none, none, none, none, none, none, none, none, none, none, none, none, none]) (va_up (va_up (va_up (va_up ip0 1 4) 2 100) 3 1) 4 7) := hE16_68
  refine v_aload_n C 0 dX9_init_58 rfl rfl ?_
  refine v_bipush (v := 40) C dX9_init_59 (by decide) ?_
  refine w_newI (N := 40) C dX9_init_61 ac_int (by decide) (by decide) (by decide) (by decide) (by decide) (fun ad17 E18 hAE18 hNE18 oNE18 => ?_)
  have aad17_68 := hAE18 68 (by decide)
  refine v_cast (lv' := [(0, .ref (ad17 68))]) (st' := [.ref (ad17 73), .ref (ad17 68)]) (by rw [aad17_68]) (by rw [aad17_68]) ?_
  have hNE18 : E18 73 = _ := hNE18
  have hE18_68 := (oNE18 68 (by decide)).trans hE16_68
  rw [rfo_new hAE18 (by first | decide | (simp; done) | (simp; omega))] at hE18_68
  have hE18_69 := (oNE18 69 (by decide)).trans hE16_69
  have hE18_70 := (oNE18 70 (by decide)).trans hE16_70
  have hE18_71 := (oNE18 71 (by decide)).trans hE16_71
  have hE18_72 := (oNE18 72 (by decide)).trans hE16_72
  refine v_putr C hin 68 dX9_init_63 fX9_35 (by decide) hE18_68 rfl rfl rfl rfl rfl (fun E19 hE19_68 oE19 => ?_)
  rw [rfo_set (by first | decide | exact Nat.le_of_ble_eq_true rfl)] at hE19_68
  have hE19_69 := (oE19 69 (by decide)).trans hE18_69
  have hE19_70 := (oE19 70 (by decide)).trans hE18_70
  have hE19_71 := (oE19 71 (by decide)).trans hE18_71
  have hE19_72 := (oE19 72 (by decide)).trans hE18_72
  have hE19_73 := (oE19 73 (by decide)).trans hNE18
  have hE19_68 : E19 68 = ob 9 (rfo ad17 [some 69, none, none, none, none, none, some 70, none, some 71, some 72, some 73, none, none, none, none, none, none, none, none, none, none, none, none, none, none, none, none, none, none, none, none, none, none, none, none, none, none, none, none, none, none, none]) (va_up (va_up (va_up (va_up ip0 1 4) 2 100) 3 1) 4 7) := hE19_68
  refine v_aload_n C 0 dX9_init_66 rfl rfl ?_
  refine v_bipush (v := 40) C dX9_init_67 (by decide) ?_
  refine w_newI (N := 40) C dX9_init_69 ac_int (by decide) (by decide) (by decide) (by decide) (by decide) (fun ad20 E21 hAE21 hNE21 oNE21 => ?_)
  have aad20_68 := hAE21 68 (by decide)
  refine v_cast (lv' := [(0, .ref (ad20 68))]) (st' := [.ref (ad20 74), .ref (ad20 68)]) (by rw [aad20_68]) (by rw [aad20_68]) ?_
  have hNE21 : E21 74 = _ := hNE21
  have hE21_68 := (oNE21 68 (by decide)).trans hE19_68
  rw [rfo_new hAE21 (by first | decide | (simp; done) | (simp; omega))] at hE21_68
  have hE21_69 := (oNE21 69 (by decide)).trans hE19_69
  have hE21_70 := (oNE21 70 (by decide)).trans hE19_70
  have hE21_71 := (oNE21 71 (by decide)).trans hE19_71
  have hE21_72 := (oNE21 72 (by decide)).trans hE19_72
  have hE21_73 := (oNE21 73 (by decide)).trans hE19_73
  refine v_putr C hin 68 dX9_init_71 fX9_38 (by decide) hE21_68 rfl rfl rfl rfl rfl (fun E22 hE22_68 oE22 => ?_)
  rw [rfo_set (by first | decide | exact Nat.le_of_ble_eq_true rfl)] at hE22_68
  have hE22_69 := (oE22 69 (by decide)).trans hE21_69
  have hE22_70 := (oE22 70 (by decide)).trans hE21_70
  have hE22_71 := (oE22 71 (by decide)).trans hE21_71
  have hE22_72 := (oE22 72 (by decide)).trans hE21_72
  have hE22_73 := (oE22 73 (by decide)).trans hE21_73
  have hE22_74 := (oE22 74 (by decide)).trans hNE21
  have hE22_68 : E22 68 = ob 9 (rfo ad20 [some 69, none, none, none, none, none, some 70, none, some 71, some 72, some 73, some 74, none, none, none, none, none, none, none, none, none, none, none, none, none, none, none, none, none, none, none, none, none, none, none, none, none, none, none, none, none, none]) (va_up (va_up (va_up (va_up ip0 1 4) 2 100) 3 1) 4 7) := hE22_68
  refine v_aload_n C 0 dX9_init_74 rfl rfl ?_
  refine v_bipush (v := 40) C dX9_init_75 (by decide) ?_
  refine w_newI (N := 40) C dX9_init_77 ac_int (by decide) (by decide) (by decide) (by decide) (by decide) (fun ad23 E24 hAE24 hNE24 oNE24 => ?_)
  have aad23_68 := hAE24 68 (by decide)
  refine v_cast (lv' := [(0, .ref (ad23 68))]) (st' := [.ref (ad23 75), .ref (ad23 68)]) (by rw [aad23_68]) (by rw [aad23_68]) ?_
  have hNE24 : E24 75 = _ := hNE24
  have hE24_68 := (oNE24 68 (by decide)).trans hE22_68
  rw [rfo_new hAE24 (by first | decide | (simp; done) | (simp; omega))] at hE24_68
  have hE24_69 := (oNE24 69 (by decide)).trans hE22_69
  have hE24_70 := (oNE24 70 (by decide)).trans hE22_70
  have hE24_71 := (oNE24 71 (by decide)).trans hE22_71
  have hE24_72 := (oNE24 72 (by decide)).trans hE22_72
  have hE24_73 := (oNE24 73 (by decide)).trans hE22_73
  have hE24_74 := (oNE24 74 (by decide)).trans hE22_74
  refine v_putr C hin 68 dX9_init_79 fX9_41 (by decide) hE24_68 rfl rfl rfl rfl rfl (fun E25 hE25_68 oE25 => ?_)
  rw [rfo_set (by first | decide | exact Nat.le_of_ble_eq_true rfl)] at hE25_68
  have hE25_69 := (oE25 69 (by decide)).trans hE24_69
  have hE25_70 := (oE25 70 (by decide)).trans hE24_70
  have hE25_71 := (oE25 71 (by decide)).trans hE24_71
  have hE25_72 := (oE25 72 (by decide)).trans hE24_72
  have hE25_73 := (oE25 73 (by decide)).trans hE24_73
  have hE25_74 := (oE25 74 (by decide)).trans hE24_74
  have hE25_75 := (oE25 75 (by decide)).trans hNE24
  have hE25_68 : E25 68 = ob 9 (rfo ad23 [some 69, none, none, none, none, none, some 70, none, some 71, some 72, some 73, some 74, some 75, none, none, none, none, none, none, none, none, none, none, none, none, none, none, none, none, none, none, none, none, none, none, none, none, none, none, none, none, none]) (va_up (va_up (va_up (va_up ip0 1 4) 2 100) 3 1) 4 7) := hE25_68
  refine v_aload_n C 0 dX9_init_82 rfl rfl ?_
  refine v_bipush (v := 40) C dX9_init_83 (by decide) ?_
  refine w_newI (N := 40) C dX9_init_85 ac_int (by decide) (by decide) (by decide) (by decide) (by decide) (fun ad26 E27 hAE27 hNE27 oNE27 => ?_)
  have aad26_68 := hAE27 68 (by decide)
  refine v_cast (lv' := [(0, .ref (ad26 68))]) (st' := [.ref (ad26 76), .ref (ad26 68)]) (by rw [aad26_68]) (by rw [aad26_68]) ?_
  have hNE27 : E27 76 = _ := hNE27
  have hE27_68 := (oNE27 68 (by decide)).trans hE25_68
  rw [rfo_new hAE27 (by first | decide | (simp; done) | (simp; omega))] at hE27_68
  have hE27_69 := (oNE27 69 (by decide)).trans hE25_69
  have hE27_70 := (oNE27 70 (by decide)).trans hE25_70
  have hE27_71 := (oNE27 71 (by decide)).trans hE25_71
  have hE27_72 := (oNE27 72 (by decide)).trans hE25_72
  have hE27_73 := (oNE27 73 (by decide)).trans hE25_73
  have hE27_74 := (oNE27 74 (by decide)).trans hE25_74
  have hE27_75 := (oNE27 75 (by decide)).trans hE25_75
  refine v_putr C hin 68 dX9_init_87 fX9_44 (by decide) hE27_68 rfl rfl rfl rfl rfl (fun E28 hE28_68 oE28 => ?_)
  rw [rfo_set (by first | decide | exact Nat.le_of_ble_eq_true rfl)] at hE28_68
  have hE28_69 := (oE28 69 (by decide)).trans hE27_69
  have hE28_70 := (oE28 70 (by decide)).trans hE27_70
  have hE28_71 := (oE28 71 (by decide)).trans hE27_71
  have hE28_72 := (oE28 72 (by decide)).trans hE27_72
  have hE28_73 := (oE28 73 (by decide)).trans hE27_73
  have hE28_74 := (oE28 74 (by decide)).trans hE27_74
  have hE28_75 := (oE28 75 (by decide)).trans hE27_75
  have hE28_76 := (oE28 76 (by decide)).trans hNE27
  have hE28_68 : E28 68 = ob 9 (rfo ad26 [some 69, none, none, none, none, none, some 70, none, some 71, some 72, some 73, some 74, some 75, some 76, none, none, none, none, none, none, none, none, none, none, none, none, none, none, none, none, none, none, none, none, none, none, none, none, none, none, none, none]) (va_up (va_up (va_up (va_up ip0 1 4) 2 100) 3 1) 4 7) := hE28_68
  refine v_aload_n C 0 dX9_init_90 rfl rfl ?_
  refine v_bipush (v := 40) C dX9_init_91 (by decide) ?_
  refine w_newI (N := 40) C dX9_init_93 ac_int (by decide) (by decide) (by decide) (by decide) (by decide) (fun ad29 E30 hAE30 hNE30 oNE30 => ?_)
  have aad29_68 := hAE30 68 (by decide)
  refine v_cast (lv' := [(0, .ref (ad29 68))]) (st' := [.ref (ad29 77), .ref (ad29 68)]) (by rw [aad29_68]) (by rw [aad29_68]) ?_
  have hNE30 : E30 77 = _ := hNE30
  have hE30_68 := (oNE30 68 (by decide)).trans hE28_68
  rw [rfo_new hAE30 (by first | decide | (simp; done) | (simp; omega))] at hE30_68
  have hE30_69 := (oNE30 69 (by decide)).trans hE28_69
  have hE30_70 := (oNE30 70 (by decide)).trans hE28_70
  have hE30_71 := (oNE30 71 (by decide)).trans hE28_71
  have hE30_72 := (oNE30 72 (by decide)).trans hE28_72
  have hE30_73 := (oNE30 73 (by decide)).trans hE28_73
  have hE30_74 := (oNE30 74 (by decide)).trans hE28_74
  have hE30_75 := (oNE30 75 (by decide)).trans hE28_75
  have hE30_76 := (oNE30 76 (by decide)).trans hE28_76
  refine v_putr C hin 68 dX9_init_95 fX9_47 (by decide) hE30_68 rfl rfl rfl rfl rfl (fun E31 hE31_68 oE31 => ?_)
  rw [rfo_set (by first | decide | exact Nat.le_of_ble_eq_true rfl)] at hE31_68
  have hE31_69 := (oE31 69 (by decide)).trans hE30_69
  have hE31_70 := (oE31 70 (by decide)).trans hE30_70
  have hE31_71 := (oE31 71 (by decide)).trans hE30_71
  have hE31_72 := (oE31 72 (by decide)).trans hE30_72
  have hE31_73 := (oE31 73 (by decide)).trans hE30_73
  have hE31_74 := (oE31 74 (by decide)).trans hE30_74
  have hE31_75 := (oE31 75 (by decide)).trans hE30_75
  have hE31_76 := (oE31 76 (by decide)).trans hE30_76
  have hE31_77 := (oE31 77 (by decide)).trans hNE30
  have hE31_68 : E31 68 = ob 9 (rfo ad29 [some 69, none, none, none, none, none, some 70, none, some 71, some 72, some 73, some 74, some 75, some 76, some 77, none, none, none, none, none, none, none, none, none, none, none, none, none, none, none, none, none, none, none, none, none, none, none, none, none, none, none]) (va_up (va_up (va_up (va_up ip0 1 4) 2 100) 3 1) 4 7) := hE31_68
  refine v_aload_n C 0 dX9_init_98 rfl rfl ?_
  refine v_iconst (v := 5) C dX9_init_99 (by decide) ?_
  refine w_newI (N := 5) C dX9_init_100 ac_int (by decide) (by decide) (by decide) (by decide) (by decide) (fun ad32 E33 hAE33 hNE33 oNE33 => ?_)
  have aad32_68 := hAE33 68 (by decide)
  refine v_cast (lv' := [(0, .ref (ad32 68))]) (st' := [.ref (ad32 78), .ref (ad32 68)]) (by rw [aad32_68]) (by rw [aad32_68]) ?_
  have hNE33 : E33 78 = _ := hNE33
  have hE33_68 := (oNE33 68 (by decide)).trans hE31_68
  rw [rfo_new hAE33 (by first | decide | (simp; done) | (simp; omega))] at hE33_68
  have hE33_69 := (oNE33 69 (by decide)).trans hE31_69
  have hE33_70 := (oNE33 70 (by decide)).trans hE31_70
  have hE33_71 := (oNE33 71 (by decide)).trans hE31_71
  have hE33_72 := (oNE33 72 (by decide)).trans hE31_72
  have hE33_73 := (oNE33 73 (by decide)).trans hE31_73
  have hE33_74 := (oNE33 74 (by decide)).trans hE31_74
  have hE33_75 := (oNE33 75 (by decide)).trans hE31_75
  have hE33_76 := (oNE33 76 (by decide)).trans hE31_76
  have hE33_77 := (oNE33 77 (by decide)).trans hE31_77
  refine v_putr C hin 68 dX9_init_102 fX9_50 (by decide) hE33_68 rfl rfl rfl rfl rfl (fun E34 hE34_68 oE34 => ?_)
  rw [rfo_set (by first | decide | exact Nat.le_of_ble_eq_true rfl)] at hE34_68
  have hE34_69 := (oE34 69 (by decide)).trans hE33_69
  have hE34_70 := (oE34 70 (by decide)).trans hE33_70
  have hE34_71 := (oE34 71 (by decide)).trans hE33_71
  have hE34_72 := (oE34 72 (by decide)).trans hE33_72
  have hE34_73 := (oE34 73 (by decide)).trans hE33_73
  have hE34_74 := (oE34 74 (by decide)).trans hE33_74
  have hE34_75 := (oE34 75 (by decide)).trans hE33_75
  have hE34_76 := (oE34 76 (by decide)).trans hE33_76
  have hE34_77 := (oE34 77 (by decide)).trans hE33_77
  have hE34_78 := (oE34 78 (by decide)).trans hNE33
  have hE34_68 : E34 68 = ob 9 (rfo ad32 [some 69, none, none, none, none, none, some 70, none, some 71, some 72, some 73, some 74, some 75, some 76, some 77, some 78, none, none, none, none, none, none, none, none, none, none, none, none, none, none, none, none, none, none, none, none, none, none, none, none, none, none]) (va_up (va_up (va_up (va_up ip0 1 4) 2 100) 3 1) 4 7) := hE34_68
  refine v_aload_n C 0 dX9_init_105 rfl rfl ?_
  refine v_ldc C dX9_init_106 kX9_53 ?_
  refine v_puti C 68 dX9_init_108 fX9_54 (by decide) hE34_68 rfl rfl rfl rfl (fun E35 hE35_68 oE35 => ?_)
  have hE35_69 := (oE35 69 (by decide)).trans hE34_69
  have hE35_70 := (oE35 70 (by decide)).trans hE34_70
  have hE35_71 := (oE35 71 (by decide)).trans hE34_71
  have hE35_72 := (oE35 72 (by decide)).trans hE34_72
  have hE35_73 := (oE35 73 (by decide)).trans hE34_73
  have hE35_74 := (oE35 74 (by decide)).trans hE34_74
  have hE35_75 := (oE35 75 (by decide)).trans hE34_75
  have hE35_76 := (oE35 76 (by decide)).trans hE34_76
  have hE35_77 := (oE35 77 (by decide)).trans hE34_77
  have hE35_78 := (oE35 78 (by decide)).trans hE34_78
  refine v_aload_n C 0 dX9_init_111 rfl rfl ?_
  refine v_iconst (v := 5) C dX9_init_112 (by decide) ?_
  refine w_newZ (N := 5) C dX9_init_113 ac_boolean (by decide) (by decide) (by decide) (by decide) (by decide) (fun ad36 E37 hAE37 hNE37 oNE37 => ?_)
  have aad36_68 := hAE37 68 (by decide)
  refine v_cast (lv' := [(0, .ref (ad36 68))]) (st' := [.ref (ad36 79), .ref (ad36 68)]) (by rw [aad36_68]) (by rw [aad36_68]) ?_
  have hNE37 : E37 79 = _ := hNE37
  have hE37_68 := (oNE37 68 (by decide)).trans hE35_68
  rw [rfo_new hAE37 (by first | decide | (simp; done) | (simp; omega))] at hE37_68
  have hE37_69 := (oNE37 69 (by decide)).trans hE35_69
  have hE37_70 := (oNE37 70 (by decide)).trans hE35_70
  have hE37_71 := (oNE37 71 (by decide)).trans hE35_71
  have hE37_72 := (oNE37 72 (by decide)).trans hE35_72
  have hE37_73 := (oNE37 73 (by decide)).trans hE35_73
  have hE37_74 := (oNE37 74 (by decide)).trans hE35_74
  have hE37_75 := (oNE37 75 (by decide)).trans hE35_75
  have hE37_76 := (oNE37 76 (by decide)).trans hE35_76
  have hE37_77 := (oNE37 77 (by decide)).trans hE35_77
  have hE37_78 := (oNE37 78 (by decide)).trans hE35_78
  refine v_putr C hin 68 dX9_init_115 fX9_57 (by decide) hE37_68 rfl rfl rfl rfl rfl (fun E38 hE38_68 oE38 => ?_)
  rw [rfo_set (by first | decide | exact Nat.le_of_ble_eq_true rfl)] at hE38_68
  have hE38_69 := (oE38 69 (by decide)).trans hE37_69
  have hE38_70 := (oE38 70 (by decide)).trans hE37_70
  have hE38_71 := (oE38 71 (by decide)).trans hE37_71
  have hE38_72 := (oE38 72 (by decide)).trans hE37_72
  have hE38_73 := (oE38 73 (by decide)).trans hE37_73
  have hE38_74 := (oE38 74 (by decide)).trans hE37_74
  have hE38_75 := (oE38 75 (by decide)).trans hE37_75
  have hE38_76 := (oE38 76 (by decide)).trans hE37_76
  have hE38_77 := (oE38 77 (by decide)).trans hE37_77
  have hE38_78 := (oE38 78 (by decide)).trans hE37_78
  have hE38_79 := (oE38 79 (by decide)).trans hNE37
  have hE38_68 : E38 68 = ob 9 (rfo ad36 [some 69, none, none, none, none, none, some 70, none, some 71, some 72, some 73, some 74, some 75, some 76, some 77, some 78, none, none, none, some 79, none, none, none, none, none, none, none, none, none, none, none, none, none, none, none, none, none, none, none, none, none, none]) (va_up (va_up (va_up (va_up (va_up ip0 1 4) 2 100) 3 1) 4 7) 18 99999) := hE38_68
  refine v_aload_n C 0 dX9_init_118 rfl rfl ?_
  refine v_sipush (v := 4005) C dX9_init_119 (by decide) ?_
  refine w_newI (N := 4005) C dX9_init_122 ac_int (by decide) (by decide) (by decide) (by decide) (by decide) (fun ad39 E40 hAE40 hNE40 oNE40 => ?_)
  have aad39_68 := hAE40 68 (by decide)
  refine v_cast (lv' := [(0, .ref (ad39 68))]) (st' := [.ref (ad39 80), .ref (ad39 68)]) (by rw [aad39_68]) (by rw [aad39_68]) ?_
  have hNE40 : E40 80 = _ := hNE40
  have hE40_68 := (oNE40 68 (by decide)).trans hE38_68
  rw [rfo_new hAE40 (by first | decide | (simp; done) | (simp; omega))] at hE40_68
  have hE40_69 := (oNE40 69 (by decide)).trans hE38_69
  have hE40_70 := (oNE40 70 (by decide)).trans hE38_70
  have hE40_71 := (oNE40 71 (by decide)).trans hE38_71
  have hE40_72 := (oNE40 72 (by decide)).trans hE38_72
  have hE40_73 := (oNE40 73 (by decide)).trans hE38_73
  have hE40_74 := (oNE40 74 (by decide)).trans hE38_74
  have hE40_75 := (oNE40 75 (by decide)).trans hE38_75
  have hE40_76 := (oNE40 76 (by decide)).trans hE38_76
  have hE40_77 := (oNE40 77 (by decide)).trans hE38_77
  have hE40_78 := (oNE40 78 (by decide)).trans hE38_78
  have hE40_79 := (oNE40 79 (by decide)).trans hE38_79
  refine v_putr C hin 68 dX9_init_124 fX9_61 (by decide) hE40_68 rfl rfl rfl rfl rfl (fun E41 hE41_68 oE41 => ?_)
  rw [rfo_set (by first | decide | exact Nat.le_of_ble_eq_true rfl)] at hE41_68
  have hE41_69 := (oE41 69 (by decide)).trans hE40_69
  have hE41_70 := (oE41 70 (by decide)).trans hE40_70
  have hE41_71 := (oE41 71 (by decide)).trans hE40_71
  have hE41_72 := (oE41 72 (by decide)).trans hE40_72
  have hE41_73 := (oE41 73 (by decide)).trans hE40_73
  have hE41_74 := (oE41 74 (by decide)).trans hE40_74
  have hE41_75 := (oE41 75 (by decide)).trans hE40_75
  have hE41_76 := (oE41 76 (by decide)).trans hE40_76
  have hE41_77 := (oE41 77 (by decide)).trans hE40_77
  have hE41_78 := (oE41 78 (by decide)).trans hE40_78
  have hE41_79 := (oE41 79 (by decide)).trans hE40_79
  have hE41_80 := (oE41 80 (by decide)).trans hNE40
  have hE41_68 : E41 68 = ob 9 (rfo ad39 [some 69, none, none, none, none, none, some 70, none, some 71, some 72, some 73, some 74, some 75, some 76, some 77, some 78, none, none, none, some 79, some 80, none, none, none, none, none, none, none, none, none, none, none, none, none, none, none, none, none, none, none, none, none]) (va_up (va_up (va_up (va_up (va_up ip0 1 4) 2 100) 3 1) 4 7) 18 99999) := hE41_68
  refine v_aload_n C 0 dX9_init_127 rfl rfl ?_
  refine v_sipush (v := 4005) C dX9_init_128 (by decide) ?_
  refine w_newI (N := 4005) C dX9_init_131 ac_int (by decide) (by decide) (by decide) (by decide) (by decide) (fun ad42 E43 hAE43 hNE43 oNE43 => ?_)
  have aad42_68 := hAE43 68 (by decide)
  refine v_cast (lv' := [(0, .ref (ad42 68))]) (st' := [.ref (ad42 81), .ref (ad42 68)]) (by rw [aad42_68]) (by rw [aad42_68]) ?_
  have hNE43 : E43 81 = _ := hNE43
  have hE43_68 := (oNE43 68 (by decide)).trans hE41_68
  rw [rfo_new hAE43 (by first | decide | (simp; done) | (simp; omega))] at hE43_68
  have hE43_69 := (oNE43 69 (by decide)).trans hE41_69
  have hE43_70 := (oNE43 70 (by decide)).trans hE41_70
  have hE43_71 := (oNE43 71 (by decide)).trans hE41_71
  have hE43_72 := (oNE43 72 (by decide)).trans hE41_72
  have hE43_73 := (oNE43 73 (by decide)).trans hE41_73
  have hE43_74 := (oNE43 74 (by decide)).trans hE41_74
  have hE43_75 := (oNE43 75 (by decide)).trans hE41_75
  have hE43_76 := (oNE43 76 (by decide)).trans hE41_76
  have hE43_77 := (oNE43 77 (by decide)).trans hE41_77
  have hE43_78 := (oNE43 78 (by decide)).trans hE41_78
  have hE43_79 := (oNE43 79 (by decide)).trans hE41_79
  have hE43_80 := (oNE43 80 (by decide)).trans hE41_80
  refine v_putr C hin 68 dX9_init_133 fX9_64 (by decide) hE43_68 rfl rfl rfl rfl rfl (fun E44 hE44_68 oE44 => ?_)
  rw [rfo_set (by first | decide | exact Nat.le_of_ble_eq_true rfl)] at hE44_68
  have hE44_69 := (oE44 69 (by decide)).trans hE43_69
  have hE44_70 := (oE44 70 (by decide)).trans hE43_70
  have hE44_71 := (oE44 71 (by decide)).trans hE43_71
  have hE44_72 := (oE44 72 (by decide)).trans hE43_72
  have hE44_73 := (oE44 73 (by decide)).trans hE43_73
  have hE44_74 := (oE44 74 (by decide)).trans hE43_74
  have hE44_75 := (oE44 75 (by decide)).trans hE43_75
  have hE44_76 := (oE44 76 (by decide)).trans hE43_76
  have hE44_77 := (oE44 77 (by decide)).trans hE43_77
  have hE44_78 := (oE44 78 (by decide)).trans hE43_78
  have hE44_79 := (oE44 79 (by decide)).trans hE43_79
  have hE44_80 := (oE44 80 (by decide)).trans hE43_80
  have hE44_81 := (oE44 81 (by decide)).trans hNE43
  have hE44_68 : E44 68 = ob 9 (rfo ad42 [some 69, none, none, none, none, none, some 70, none, some 71, some 72, some 73, some 74, some 75, some 76, some 77, some 78, none, none, none, some 79, some 80, some 81, none, none, none, none, none, none, none, none, none, none, none, none, none, none, none, none, none, none, none, none]) (va_up (va_up (va_up (va_up (va_up ip0 1 4) 2 100) 3 1) 4 7) 18 99999) := hE44_68
  refine v_aload_n C 0 dX9_init_136 rfl rfl ?_
  refine v_iconst (v := 5) C dX9_init_137 (by decide) ?_
  refine w_newI (N := 5) C dX9_init_138 ac_int (by decide) (by decide) (by decide) (by decide) (by decide) (fun ad45 E46 hAE46 hNE46 oNE46 => ?_)
  have aad45_68 := hAE46 68 (by decide)
  refine v_cast (lv' := [(0, .ref (ad45 68))]) (st' := [.ref (ad45 82), .ref (ad45 68)]) (by rw [aad45_68]) (by rw [aad45_68]) ?_
  have hNE46 : E46 82 = _ := hNE46
  have hE46_68 := (oNE46 68 (by decide)).trans hE44_68
  rw [rfo_new hAE46 (by first | decide | (simp; done) | (simp; omega))] at hE46_68
  have hE46_69 := (oNE46 69 (by decide)).trans hE44_69
  have hE46_70 := (oNE46 70 (by decide)).trans hE44_70
  have hE46_71 := (oNE46 71 (by decide)).trans hE44_71
  have hE46_72 := (oNE46 72 (by decide)).trans hE44_72
  have hE46_73 := (oNE46 73 (by decide)).trans hE44_73
  have hE46_74 := (oNE46 74 (by decide)).trans hE44_74
  have hE46_75 := (oNE46 75 (by decide)).trans hE44_75
  have hE46_76 := (oNE46 76 (by decide)).trans hE44_76
  have hE46_77 := (oNE46 77 (by decide)).trans hE44_77
  have hE46_78 := (oNE46 78 (by decide)).trans hE44_78
  have hE46_79 := (oNE46 79 (by decide)).trans hE44_79
  have hE46_80 := (oNE46 80 (by decide)).trans hE44_80
  have hE46_81 := (oNE46 81 (by decide)).trans hE44_81
  refine v_putr C hin 68 dX9_init_140 fX9_67 (by decide) hE46_68 rfl rfl rfl rfl rfl (fun E47 hE47_68 oE47 => ?_)
  rw [rfo_set (by first | decide | exact Nat.le_of_ble_eq_true rfl)] at hE47_68
  have hE47_69 := (oE47 69 (by decide)).trans hE46_69
  have hE47_70 := (oE47 70 (by decide)).trans hE46_70
  have hE47_71 := (oE47 71 (by decide)).trans hE46_71
  have hE47_72 := (oE47 72 (by decide)).trans hE46_72
  have hE47_73 := (oE47 73 (by decide)).trans hE46_73
  have hE47_74 := (oE47 74 (by decide)).trans hE46_74
  have hE47_75 := (oE47 75 (by decide)).trans hE46_75
  have hE47_76 := (oE47 76 (by decide)).trans hE46_76
  have hE47_77 := (oE47 77 (by decide)).trans hE46_77
  have hE47_78 := (oE47 78 (by decide)).trans hE46_78
  have hE47_79 := (oE47 79 (by decide)).trans hE46_79
  have hE47_80 := (oE47 80 (by decide)).trans hE46_80
  have hE47_81 := (oE47 81 (by decide)).trans hE46_81
  have hE47_82 := (oE47 82 (by decide)).trans hNE46
  have hE47_68 : E47 68 = ob 9 (rfo ad45 [some 69, none, none, none, none, none, some 70, none, some 71, some 72, some 73, some 74, some 75, some 76, some 77, some 78, none, none, none, some 79, some 80, some 81, some 82, none, none, none, none, none, none, none, none, none, none, none, none, none, none, none, none, none, none, none]) (va_up (va_up (va_up (va_up (va_up ip0 1 4) 2 100) 3 1) 4 7) 18 99999) := hE47_68
  refine v_aload_n C 0 dX9_init_143 rfl rfl ?_
  refine v_sipush (v := 800) C dX9_init_144 (by decide) ?_
  refine w_newI (N := 800) C dX9_init_147 ac_int (by decide) (by decide) (by decide) (by decide) (by decide) (fun ad48 E49 hAE49 hNE49 oNE49 => ?_)
  have aad48_68 := hAE49 68 (by decide)
  refine v_cast (lv' := [(0, .ref (ad48 68))]) (st' := [.ref (ad48 83), .ref (ad48 68)]) (by rw [aad48_68]) (by rw [aad48_68]) ?_
  have hNE49 : E49 83 = _ := hNE49
  have hE49_68 := (oNE49 68 (by decide)).trans hE47_68
  rw [rfo_new hAE49 (by first | decide | (simp; done) | (simp; omega))] at hE49_68
  have hE49_69 := (oNE49 69 (by decide)).trans hE47_69
  have hE49_70 := (oNE49 70 (by decide)).trans hE47_70
  have hE49_71 := (oNE49 71 (by decide)).trans hE47_71
  have hE49_72 := (oNE49 72 (by decide)).trans hE47_72
  have hE49_73 := (oNE49 73 (by decide)).trans hE47_73
  have hE49_74 := (oNE49 74 (by decide)).trans hE47_74
  have hE49_75 := (oNE49 75 (by decide)).trans hE47_75
  have hE49_76 := (oNE49 76 (by decide)).trans hE47_76
  have hE49_77 := (oNE49 77 (by decide)).trans hE47_77
  have hE49_78 := (oNE49 78 (by decide)).trans hE47_78
  have hE49_79 := (oNE49 79 (by decide)).trans hE47_79
  have hE49_80 := (oNE49 80 (by decide)).trans hE47_80
  have hE49_81 := (oNE49 81 (by decide)).trans hE47_81
  have hE49_82 := (oNE49 82 (by decide)).trans hE47_82
  refine v_putr C hin 68 dX9_init_149 fX9_70 (by decide) hE49_68 rfl rfl rfl rfl rfl (fun E50 hE50_68 oE50 => ?_)
  rw [rfo_set (by first | decide | exact Nat.le_of_ble_eq_true rfl)] at hE50_68
  have hE50_69 := (oE50 69 (by decide)).trans hE49_69
  have hE50_70 := (oE50 70 (by decide)).trans hE49_70
  have hE50_71 := (oE50 71 (by decide)).trans hE49_71
  have hE50_72 := (oE50 72 (by decide)).trans hE49_72
  have hE50_73 := (oE50 73 (by decide)).trans hE49_73
  have hE50_74 := (oE50 74 (by decide)).trans hE49_74
  have hE50_75 := (oE50 75 (by decide)).trans hE49_75
  have hE50_76 := (oE50 76 (by decide)).trans hE49_76
  have hE50_77 := (oE50 77 (by decide)).trans hE49_77
  have hE50_78 := (oE50 78 (by decide)).trans hE49_78
  have hE50_79 := (oE50 79 (by decide)).trans hE49_79
  have hE50_80 := (oE50 80 (by decide)).trans hE49_80
  have hE50_81 := (oE50 81 (by decide)).trans hE49_81
  have hE50_82 := (oE50 82 (by decide)).trans hE49_82
  have hE50_83 := (oE50 83 (by decide)).trans hNE49
  have hE50_68 : E50 68 = ob 9 (rfo ad48 [some 69, none, none, none, none, none, some 70, none, some 71, some 72, some 73, some 74, some 75, some 76, some 77, some 78, none, none, none, some 79, some 80, some 81, some 82, some 83, none, none, none, none, none, none, none, none, none, none, none, none, none, none, none, none, none, none]) (va_up (va_up (va_up (va_up (va_up ip0 1 4) 2 100) 3 1) 4 7) 18 99999) := hE50_68
  refine v_aload_n C 0 dX9_init_152 rfl rfl ?_
  refine v_sipush (v := 800) C dX9_init_153 (by decide) ?_
  refine w_newI (N := 800) C dX9_init_156 ac_int (by decide) (by decide) (by decide) (by decide) (by decide) (fun ad51 E52 hAE52 hNE52 oNE52 => ?_)
  have aad51_68 := hAE52 68 (by decide)
  refine v_cast (lv' := [(0, .ref (ad51 68))]) (st' := [.ref (ad51 84), .ref (ad51 68)]) (by rw [aad51_68]) (by rw [aad51_68]) ?_
  have hNE52 : E52 84 = _ := hNE52
  have hE52_68 := (oNE52 68 (by decide)).trans hE50_68
  rw [rfo_new hAE52 (by first | decide | (simp; done) | (simp; omega))] at hE52_68
  have hE52_69 := (oNE52 69 (by decide)).trans hE50_69
  have hE52_70 := (oNE52 70 (by decide)).trans hE50_70
  have hE52_71 := (oNE52 71 (by decide)).trans hE50_71
  have hE52_72 := (oNE52 72 (by decide)).trans hE50_72
  have hE52_73 := (oNE52 73 (by decide)).trans hE50_73
  have hE52_74 := (oNE52 74 (by decide)).trans hE50_74
  have hE52_75 := (oNE52 75 (by decide)).trans hE50_75
  have hE52_76 := (oNE52 76 (by decide)).trans hE50_76
  have hE52_77 := (oNE52 77 (by decide)).trans hE50_77
  have hE52_78 := (oNE52 78 (by decide)).trans hE50_78
  have hE52_79 := (oNE52 79 (by decide)).trans hE50_79
  have hE52_80 := (oNE52 80 (by decide)).trans hE50_80
  have hE52_81 := (oNE52 81 (by decide)).trans hE50_81
  have hE52_82 := (oNE52 82 (by decide)).trans hE50_82
  have hE52_83 := (oNE52 83 (by decide)).trans hE50_83
  refine v_putr C hin 68 dX9_init_158 fX9_73 (by decide) hE52_68 rfl rfl rfl rfl rfl (fun E53 hE53_68 oE53 => ?_)
  rw [rfo_set (by first | decide | exact Nat.le_of_ble_eq_true rfl)] at hE53_68
  have hE53_69 := (oE53 69 (by decide)).trans hE52_69
  have hE53_70 := (oE53 70 (by decide)).trans hE52_70
  have hE53_71 := (oE53 71 (by decide)).trans hE52_71
  have hE53_72 := (oE53 72 (by decide)).trans hE52_72
  have hE53_73 := (oE53 73 (by decide)).trans hE52_73
  have hE53_74 := (oE53 74 (by decide)).trans hE52_74
  have hE53_75 := (oE53 75 (by decide)).trans hE52_75
  have hE53_76 := (oE53 76 (by decide)).trans hE52_76
  have hE53_77 := (oE53 77 (by decide)).trans hE52_77
  have hE53_78 := (oE53 78 (by decide)).trans hE52_78
  have hE53_79 := (oE53 79 (by decide)).trans hE52_79
  have hE53_80 := (oE53 80 (by decide)).trans hE52_80
  have hE53_81 := (oE53 81 (by decide)).trans hE52_81
  have hE53_82 := (oE53 82 (by decide)).trans hE52_82
  have hE53_83 := (oE53 83 (by decide)).trans hE52_83
  have hE53_84 := (oE53 84 (by decide)).trans hNE52
  have hE53_68 : E53 68 = ob 9 (rfo ad51 [some 69, none, none, none, none, none, some 70, none, some 71, some 72, some 73, some 74, some 75, some 76, some 77, some 78, none, none, none, some 79, some 80, some 81, some 82, some 83, some 84, none, none, none, none, none, none, none, none, none, none, none, none, none, none, none, none, none]) (va_up (va_up (va_up (va_up (va_up ip0 1 4) 2 100) 3 1) 4 7) 18 99999) := hE53_68
  refine v_aload_n C 0 dX9_init_161 rfl rfl ?_
  refine v_bipush (v := 60) C dX9_init_162 (by decide) ?_
  refine w_newI (N := 60) C dX9_init_164 ac_int (by decide) (by decide) (by decide) (by decide) (by decide) (fun ad54 E55 hAE55 hNE55 oNE55 => ?_)
  have aad54_68 := hAE55 68 (by decide)
  refine v_cast (lv' := [(0, .ref (ad54 68))]) (st' := [.ref (ad54 85), .ref (ad54 68)]) (by rw [aad54_68]) (by rw [aad54_68]) ?_
  have hNE55 : E55 85 = _ := hNE55
  have hE55_68 := (oNE55 68 (by decide)).trans hE53_68
  rw [rfo_new hAE55 (by first | decide | (simp; done) | (simp; omega))] at hE55_68
  have hE55_69 := (oNE55 69 (by decide)).trans hE53_69
  have hE55_70 := (oNE55 70 (by decide)).trans hE53_70
  have hE55_71 := (oNE55 71 (by decide)).trans hE53_71
  have hE55_72 := (oNE55 72 (by decide)).trans hE53_72
  have hE55_73 := (oNE55 73 (by decide)).trans hE53_73
  have hE55_74 := (oNE55 74 (by decide)).trans hE53_74
  have hE55_75 := (oNE55 75 (by decide)).trans hE53_75
  have hE55_76 := (oNE55 76 (by decide)).trans hE53_76
  have hE55_77 := (oNE55 77 (by decide)).trans hE53_77
  have hE55_78 := (oNE55 78 (by decide)).trans hE53_78
  have hE55_79 := (oNE55 79 (by decide)).trans hE53_79
  have hE55_80 := (oNE55 80 (by decide)).trans hE53_80
  have hE55_81 := (oNE55 81 (by decide)).trans hE53_81
  have hE55_82 := (oNE55 82 (by decide)).trans hE53_82
  have hE55_83 := (oNE55 83 (by decide)).trans hE53_83
  have hE55_84 := (oNE55 84 (by decide)).trans hE53_84
  refine v_putr C hin 68 dX9_init_166 fX9_76 (by decide) hE55_68 rfl rfl rfl rfl rfl (fun E56 hE56_68 oE56 => ?_)
  rw [rfo_set (by first | decide | exact Nat.le_of_ble_eq_true rfl)] at hE56_68
  have hE56_69 := (oE56 69 (by decide)).trans hE55_69
  have hE56_70 := (oE56 70 (by decide)).trans hE55_70
  have hE56_71 := (oE56 71 (by decide)).trans hE55_71
  have hE56_72 := (oE56 72 (by decide)).trans hE55_72
  have hE56_73 := (oE56 73 (by decide)).trans hE55_73
  have hE56_74 := (oE56 74 (by decide)).trans hE55_74
  have hE56_75 := (oE56 75 (by decide)).trans hE55_75
  have hE56_76 := (oE56 76 (by decide)).trans hE55_76
  have hE56_77 := (oE56 77 (by decide)).trans hE55_77
  have hE56_78 := (oE56 78 (by decide)).trans hE55_78
  have hE56_79 := (oE56 79 (by decide)).trans hE55_79
  have hE56_80 := (oE56 80 (by decide)).trans hE55_80
  have hE56_81 := (oE56 81 (by decide)).trans hE55_81
  have hE56_82 := (oE56 82 (by decide)).trans hE55_82
  have hE56_83 := (oE56 83 (by decide)).trans hE55_83
  have hE56_84 := (oE56 84 (by decide)).trans hE55_84
  have hE56_85 := (oE56 85 (by decide)).trans hNE55
  have hE56_68 : E56 68 = ob 9 (rfo ad54 [some 69, none, none, none, none, none, some 70, none, some 71, some 72, some 73, some 74, some 75, some 76, some 77, some 78, none, none, none, some 79, some 80, some 81, some 82, some 83, some 84, some 85, none, none, none, none, none, none, none, none, none, none, none, none, none, none, none, none]) (va_up (va_up (va_up (va_up (va_up ip0 1 4) 2 100) 3 1) 4 7) 18 99999) := hE56_68
  refine v_aload_n C 0 dX9_init_169 rfl rfl ?_
  refine v_bipush (v := 60) C dX9_init_170 (by decide) ?_
  refine w_newI (N := 60) C dX9_init_172 ac_int (by decide) (by decide) (by decide) (by decide) (by decide) (fun ad57 E58 hAE58 hNE58 oNE58 => ?_)
  have aad57_68 := hAE58 68 (by decide)
  refine v_cast (lv' := [(0, .ref (ad57 68))]) (st' := [.ref (ad57 86), .ref (ad57 68)]) (by rw [aad57_68]) (by rw [aad57_68]) ?_
  have hNE58 : E58 86 = _ := hNE58
  have hE58_68 := (oNE58 68 (by decide)).trans hE56_68
  rw [rfo_new hAE58 (by first | decide | (simp; done) | (simp; omega))] at hE58_68
  have hE58_69 := (oNE58 69 (by decide)).trans hE56_69
  have hE58_70 := (oNE58 70 (by decide)).trans hE56_70
  have hE58_71 := (oNE58 71 (by decide)).trans hE56_71
  have hE58_72 := (oNE58 72 (by decide)).trans hE56_72
  have hE58_73 := (oNE58 73 (by decide)).trans hE56_73
  have hE58_74 := (oNE58 74 (by decide)).trans hE56_74
  have hE58_75 := (oNE58 75 (by decide)).trans hE56_75
  have hE58_76 := (oNE58 76 (by decide)).trans hE56_76
  have hE58_77 := (oNE58 77 (by decide)).trans hE56_77
  have hE58_78 := (oNE58 78 (by decide)).trans hE56_78
  have hE58_79 := (oNE58 79 (by decide)).trans hE56_79
  have hE58_80 := (oNE58 80 (by decide)).trans hE56_80
  have hE58_81 := (oNE58 81 (by decide)).trans hE56_81
  have hE58_82 := (oNE58 82 (by decide)).trans hE56_82
  have hE58_83 := (oNE58 83 (by decide)).trans hE56_83
  have hE58_84 := (oNE58 84 (by decide)).trans hE56_84
  have hE58_85 := (oNE58 85 (by decide)).trans hE56_85
  refine v_putr C hin 68 dX9_init_174 fX9_79 (by decide) hE58_68 rfl rfl rfl rfl rfl (fun E59 hE59_68 oE59 => ?_)
  rw [rfo_set (by first | decide | exact Nat.le_of_ble_eq_true rfl)] at hE59_68
  have hE59_69 := (oE59 69 (by decide)).trans hE58_69
  have hE59_70 := (oE59 70 (by decide)).trans hE58_70
  have hE59_71 := (oE59 71 (by decide)).trans hE58_71
  have hE59_72 := (oE59 72 (by decide)).trans hE58_72
  have hE59_73 := (oE59 73 (by decide)).trans hE58_73
  have hE59_74 := (oE59 74 (by decide)).trans hE58_74
  have hE59_75 := (oE59 75 (by decide)).trans hE58_75
  have hE59_76 := (oE59 76 (by decide)).trans hE58_76
  have hE59_77 := (oE59 77 (by decide)).trans hE58_77
  have hE59_78 := (oE59 78 (by decide)).trans hE58_78
  have hE59_79 := (oE59 79 (by decide)).trans hE58_79
  have hE59_80 := (oE59 80 (by decide)).trans hE58_80
  have hE59_81 := (oE59 81 (by decide)).trans hE58_81
  have hE59_82 := (oE59 82 (by decide)).trans hE58_82
  have hE59_83 := (oE59 83 (by decide)).trans hE58_83
  have hE59_84 := (oE59 84 (by decide)).trans hE58_84
  have hE59_85 := (oE59 85 (by decide)).trans hE58_85
  have hE59_86 := (oE59 86 (by decide)).trans hNE58
  have hE59_68 : E59 68 = ob 9 (rfo ad57 [some 69, none, none, none, none, none, some 70, none, some 71, some 72, some 73, some 74, some 75, some 76, some 77, some 78, none, none, none, some 79, some 80, some 81, some 82, some 83, some 84, some 85, some 86, none, none, none, none, none, none, none, none, none, none, none, none, none, none, none]) (va_up (va_up (va_up (va_up (va_up ip0 1 4) 2 100) 3 1) 4 7) 18 99999) := hE59_68
  refine v_aload_n C 0 dX9_init_177 rfl rfl ?_
  refine v_bipush (v := 60) C dX9_init_178 (by decide) ?_
  refine w_newI (N := 60) C dX9_init_180 ac_int (by decide) (by decide) (by decide) (by decide) (by decide) (fun ad60 E61 hAE61 hNE61 oNE61 => ?_)
  have aad60_68 := hAE61 68 (by decide)
  refine v_cast (lv' := [(0, .ref (ad60 68))]) (st' := [.ref (ad60 87), .ref (ad60 68)]) (by rw [aad60_68]) (by rw [aad60_68]) ?_
  have hNE61 : E61 87 = _ := hNE61
  have hE61_68 := (oNE61 68 (by decide)).trans hE59_68
  rw [rfo_new hAE61 (by first | decide | (simp; done) | (simp; omega))] at hE61_68
  have hE61_69 := (oNE61 69 (by decide)).trans hE59_69
  have hE61_70 := (oNE61 70 (by decide)).trans hE59_70
  have hE61_71 := (oNE61 71 (by decide)).trans hE59_71
  have hE61_72 := (oNE61 72 (by decide)).trans hE59_72
  have hE61_73 := (oNE61 73 (by decide)).trans hE59_73
  have hE61_74 := (oNE61 74 (by decide)).trans hE59_74
  have hE61_75 := (oNE61 75 (by decide)).trans hE59_75
  have hE61_76 := (oNE61 76 (by decide)).trans hE59_76
  have hE61_77 := (oNE61 77 (by decide)).trans hE59_77
  have hE61_78 := (oNE61 78 (by decide)).trans hE59_78
  have hE61_79 := (oNE61 79 (by decide)).trans hE59_79
  have hE61_80 := (oNE61 80 (by decide)).trans hE59_80
  have hE61_81 := (oNE61 81 (by decide)).trans hE59_81
  have hE61_82 := (oNE61 82 (by decide)).trans hE59_82
  have hE61_83 := (oNE61 83 (by decide)).trans hE59_83
  have hE61_84 := (oNE61 84 (by decide)).trans hE59_84
  have hE61_85 := (oNE61 85 (by decide)).trans hE59_85
  have hE61_86 := (oNE61 86 (by decide)).trans hE59_86
  refine v_putr C hin 68 dX9_init_182 fX9_82 (by decide) hE61_68 rfl rfl rfl rfl rfl (fun E62 hE62_68 oE62 => ?_)
  rw [rfo_set (by first | decide | exact Nat.le_of_ble_eq_true rfl)] at hE62_68
  have hE62_69 := (oE62 69 (by decide)).trans hE61_69
  have hE62_70 := (oE62 70 (by decide)).trans hE61_70
  have hE62_71 := (oE62 71 (by decide)).trans hE61_71
  have hE62_72 := (oE62 72 (by decide)).trans hE61_72
  have hE62_73 := (oE62 73 (by decide)).trans hE61_73
  have hE62_74 := (oE62 74 (by decide)).trans hE61_74
  have hE62_75 := (oE62 75 (by decide)).trans hE61_75
  have hE62_76 := (oE62 76 (by decide)).trans hE61_76
  have hE62_77 := (oE62 77 (by decide)).trans hE61_77
  have hE62_78 := (oE62 78 (by decide)).trans hE61_78
  have hE62_79 := (oE62 79 (by decide)).trans hE61_79
  have hE62_80 := (oE62 80 (by decide)).trans hE61_80
  have hE62_81 := (oE62 81 (by decide)).trans hE61_81
  have hE62_82 := (oE62 82 (by decide)).trans hE61_82
  have hE62_83 := (oE62 83 (by decide)).trans hE61_83
  have hE62_84 := (oE62 84 (by decide)).trans hE61_84
  have hE62_85 := (oE62 85 (by decide)).trans hE61_85
  have hE62_86 := (oE62 86 (by decide)).trans hE61_86
  have hE62_87 := (oE62 87 (by decide)).trans hNE61
  have hE62_68 : E62 68 = ob 9 (rfo ad60 [some 69, none, none, none, none, none, some 70, none, some 71, some 72, some 73, some 74, some 75, some 76, some 77, some 78, none, none, none, some 79, some 80, some 81, some 82, some 83, some 84, some 85, some 86, some 87, none, none, none, none, none, none, none, none, none, none, none, none, none, none]) (va_up (va_up (va_up (va_up (va_up ip0 1 4) 2 100) 3 1) 4 7) 18 99999) := hE62_68
  refine v_aload_n C 0 dX9_init_185 rfl rfl ?_
  refine v_bipush (v := 6) C dX9_init_186 (by decide) ?_
  refine w_newI (N := 6) C dX9_init_188 ac_int (by decide) (by decide) (by decide) (by decide) (by decide) (fun ad63 E64 hAE64 hNE64 oNE64 => ?_)
  have aad63_68 := hAE64 68 (by decide)
  refine v_cast (lv' := [(0, .ref (ad63 68))]) (st' := [.ref (ad63 88), .ref (ad63 68)]) (by rw [aad63_68]) (by rw [aad63_68]) ?_
  have hNE64 : E64 88 = _ := hNE64
  have hE64_68 := (oNE64 68 (by decide)).trans hE62_68
  rw [rfo_new hAE64 (by first | decide | (simp; done) | (simp; omega))] at hE64_68
  have hE64_69 := (oNE64 69 (by decide)).trans hE62_69
  have hE64_70 := (oNE64 70 (by decide)).trans hE62_70
  have hE64_71 := (oNE64 71 (by decide)).trans hE62_71
  have hE64_72 := (oNE64 72 (by decide)).trans hE62_72
  have hE64_73 := (oNE64 73 (by decide)).trans hE62_73
  have hE64_74 := (oNE64 74 (by decide)).trans hE62_74
  have hE64_75 := (oNE64 75 (by decide)).trans hE62_75
  have hE64_76 := (oNE64 76 (by decide)).trans hE62_76
  have hE64_77 := (oNE64 77 (by decide)).trans hE62_77
  have hE64_78 := (oNE64 78 (by decide)).trans hE62_78
  have hE64_79 := (oNE64 79 (by decide)).trans hE62_79
  have hE64_80 := (oNE64 80 (by decide)).trans hE62_80
  have hE64_81 := (oNE64 81 (by decide)).trans hE62_81
  have hE64_82 := (oNE64 82 (by decide)).trans hE62_82
  have hE64_83 := (oNE64 83 (by decide)).trans hE62_83
  have hE64_84 := (oNE64 84 (by decide)).trans hE62_84
  have hE64_85 := (oNE64 85 (by decide)).trans hE62_85
  have hE64_86 := (oNE64 86 (by decide)).trans hE62_86
  have hE64_87 := (oNE64 87 (by decide)).trans hE62_87
  refine v_putr C hin 68 dX9_init_190 fX9_85 (by decide) hE64_68 rfl rfl rfl rfl rfl (fun E65 hE65_68 oE65 => ?_)
  rw [rfo_set (by first | decide | exact Nat.le_of_ble_eq_true rfl)] at hE65_68
  have hE65_69 := (oE65 69 (by decide)).trans hE64_69
  have hE65_70 := (oE65 70 (by decide)).trans hE64_70
  have hE65_71 := (oE65 71 (by decide)).trans hE64_71
  have hE65_72 := (oE65 72 (by decide)).trans hE64_72
  have hE65_73 := (oE65 73 (by decide)).trans hE64_73
  have hE65_74 := (oE65 74 (by decide)).trans hE64_74
  have hE65_75 := (oE65 75 (by decide)).trans hE64_75
  have hE65_76 := (oE65 76 (by decide)).trans hE64_76
  have hE65_77 := (oE65 77 (by decide)).trans hE64_77
  have hE65_78 := (oE65 78 (by decide)).trans hE64_78
  have hE65_79 := (oE65 79 (by decide)).trans hE64_79
  have hE65_80 := (oE65 80 (by decide)).trans hE64_80
  have hE65_81 := (oE65 81 (by decide)).trans hE64_81
  have hE65_82 := (oE65 82 (by decide)).trans hE64_82
  have hE65_83 := (oE65 83 (by decide)).trans hE64_83
  have hE65_84 := (oE65 84 (by decide)).trans hE64_84
  have hE65_85 := (oE65 85 (by decide)).trans hE64_85
  have hE65_86 := (oE65 86 (by decide)).trans hE64_86
  have hE65_87 := (oE65 87 (by decide)).trans hE64_87
  have hE65_88 := (oE65 88 (by decide)).trans hNE64
  have hE65_68 : E65 68 = ob 9 (rfo ad63 [some 69, none, none, none, none, none, some 70, none, some 71, some 72, some 73, some 74, some 75, some 76, some 77, some 78, none, none, none, some 79, some 80, some 81, some 82, some 83, some 84, some 85, some 86, some 87, some 88, none, none, none, none, none, none, none, none, none, none, none, none, none]) (va_up (va_up (va_up (va_up (va_up ip0 1 4) 2 100) 3 1) 4 7) 18 99999) := hE65_68
  refine v_aload_n C 0 dX9_init_193 rfl rfl ?_
  refine v_bipush (v := 10) C dX9_init_194 (by decide) ?_
  refine w_newI (N := 10) C dX9_init_196 ac_int (by decide) (by decide) (by decide) (by decide) (by decide) (fun ad66 E67 hAE67 hNE67 oNE67 => ?_)
  have aad66_68 := hAE67 68 (by decide)
  refine v_cast (lv' := [(0, .ref (ad66 68))]) (st' := [.ref (ad66 89), .ref (ad66 68)]) (by rw [aad66_68]) (by rw [aad66_68]) ?_
  have hNE67 : E67 89 = _ := hNE67
  have hE67_68 := (oNE67 68 (by decide)).trans hE65_68
  rw [rfo_new hAE67 (by first | decide | (simp; done) | (simp; omega))] at hE67_68
  have hE67_69 := (oNE67 69 (by decide)).trans hE65_69
  have hE67_70 := (oNE67 70 (by decide)).trans hE65_70
  have hE67_71 := (oNE67 71 (by decide)).trans hE65_71
  have hE67_72 := (oNE67 72 (by decide)).trans hE65_72
  have hE67_73 := (oNE67 73 (by decide)).trans hE65_73
  have hE67_74 := (oNE67 74 (by decide)).trans hE65_74
  have hE67_75 := (oNE67 75 (by decide)).trans hE65_75
  have hE67_76 := (oNE67 76 (by decide)).trans hE65_76
  have hE67_77 := (oNE67 77 (by decide)).trans hE65_77
  have hE67_78 := (oNE67 78 (by decide)).trans hE65_78
  have hE67_79 := (oNE67 79 (by decide)).trans hE65_79
  have hE67_80 := (oNE67 80 (by decide)).trans hE65_80
  have hE67_81 := (oNE67 81 (by decide)).trans hE65_81
  have hE67_82 := (oNE67 82 (by decide)).trans hE65_82
  have hE67_83 := (oNE67 83 (by decide)).trans hE65_83
  have hE67_84 := (oNE67 84 (by decide)).trans hE65_84
  have hE67_85 := (oNE67 85 (by decide)).trans hE65_85
  have hE67_86 := (oNE67 86 (by decide)).trans hE65_86
  have hE67_87 := (oNE67 87 (by decide)).trans hE65_87
  have hE67_88 := (oNE67 88 (by decide)).trans hE65_88
  refine v_putr C hin 68 dX9_init_198 fX9_88 (by decide) hE67_68 rfl rfl rfl rfl rfl (fun E68 hE68_68 oE68 => ?_)
  rw [rfo_set (by first | decide | exact Nat.le_of_ble_eq_true rfl)] at hE68_68
  have hE68_69 := (oE68 69 (by decide)).trans hE67_69
  have hE68_70 := (oE68 70 (by decide)).trans hE67_70
  have hE68_71 := (oE68 71 (by decide)).trans hE67_71
  have hE68_72 := (oE68 72 (by decide)).trans hE67_72
  have hE68_73 := (oE68 73 (by decide)).trans hE67_73
  have hE68_74 := (oE68 74 (by decide)).trans hE67_74
  have hE68_75 := (oE68 75 (by decide)).trans hE67_75
  have hE68_76 := (oE68 76 (by decide)).trans hE67_76
  have hE68_77 := (oE68 77 (by decide)).trans hE67_77
  have hE68_78 := (oE68 78 (by decide)).trans hE67_78
  have hE68_79 := (oE68 79 (by decide)).trans hE67_79
  have hE68_80 := (oE68 80 (by decide)).trans hE67_80
  have hE68_81 := (oE68 81 (by decide)).trans hE67_81
  have hE68_82 := (oE68 82 (by decide)).trans hE67_82
  have hE68_83 := (oE68 83 (by decide)).trans hE67_83
  have hE68_84 := (oE68 84 (by decide)).trans hE67_84
  have hE68_85 := (oE68 85 (by decide)).trans hE67_85
  have hE68_86 := (oE68 86 (by decide)).trans hE67_86
  have hE68_87 := (oE68 87 (by decide)).trans hE67_87
  have hE68_88 := (oE68 88 (by decide)).trans hE67_88
  have hE68_89 := (oE68 89 (by decide)).trans hNE67
  have hE68_68 : E68 68 = ob 9 (rfo ad66 [some 69, none, none, none, none, none, some 70, none, some 71, some 72, some 73, some 74, some 75, some 76, some 77, some 78, none, none, none, some 79, some 80, some 81, some 82, some 83, some 84, some 85, some 86, some 87, some 88, some 89, none, none, none, none, none, none, none, none, none, none, none, none]) (va_up (va_up (va_up (va_up (va_up ip0 1 4) 2 100) 3 1) 4 7) 18 99999) := hE68_68
  refine v_aload_n C 0 dX9_init_201 rfl rfl ?_
  refine v_bipush (v := 10) C dX9_init_202 (by decide) ?_
  refine w_newI (N := 10) C dX9_init_204 ac_int (by decide) (by decide) (by decide) (by decide) (by decide) (fun ad69 E70 hAE70 hNE70 oNE70 => ?_)
  have aad69_68 := hAE70 68 (by decide)
  refine v_cast (lv' := [(0, .ref (ad69 68))]) (st' := [.ref (ad69 90), .ref (ad69 68)]) (by rw [aad69_68]) (by rw [aad69_68]) ?_
  have hNE70 : E70 90 = _ := hNE70
  have hE70_68 := (oNE70 68 (by decide)).trans hE68_68
  rw [rfo_new hAE70 (by first | decide | (simp; done) | (simp; omega))] at hE70_68
  have hE70_69 := (oNE70 69 (by decide)).trans hE68_69
  have hE70_70 := (oNE70 70 (by decide)).trans hE68_70
  have hE70_71 := (oNE70 71 (by decide)).trans hE68_71
  have hE70_72 := (oNE70 72 (by decide)).trans hE68_72
  have hE70_73 := (oNE70 73 (by decide)).trans hE68_73
  have hE70_74 := (oNE70 74 (by decide)).trans hE68_74
  have hE70_75 := (oNE70 75 (by decide)).trans hE68_75
  have hE70_76 := (oNE70 76 (by decide)).trans hE68_76
  have hE70_77 := (oNE70 77 (by decide)).trans hE68_77
  have hE70_78 := (oNE70 78 (by decide)).trans hE68_78
  have hE70_79 := (oNE70 79 (by decide)).trans hE68_79
  have hE70_80 := (oNE70 80 (by decide)).trans hE68_80
  have hE70_81 := (oNE70 81 (by decide)).trans hE68_81
  have hE70_82 := (oNE70 82 (by decide)).trans hE68_82
  have hE70_83 := (oNE70 83 (by decide)).trans hE68_83
  have hE70_84 := (oNE70 84 (by decide)).trans hE68_84
  have hE70_85 := (oNE70 85 (by decide)).trans hE68_85
  have hE70_86 := (oNE70 86 (by decide)).trans hE68_86
  have hE70_87 := (oNE70 87 (by decide)).trans hE68_87
  have hE70_88 := (oNE70 88 (by decide)).trans hE68_88
  have hE70_89 := (oNE70 89 (by decide)).trans hE68_89
  refine v_putr C hin 68 dX9_init_206 fX9_91 (by decide) hE70_68 rfl rfl rfl rfl rfl (fun E71 hE71_68 oE71 => ?_)
  rw [rfo_set (by first | decide | exact Nat.le_of_ble_eq_true rfl)] at hE71_68
  have hE71_69 := (oE71 69 (by decide)).trans hE70_69
  have hE71_70 := (oE71 70 (by decide)).trans hE70_70
  have hE71_71 := (oE71 71 (by decide)).trans hE70_71
  have hE71_72 := (oE71 72 (by decide)).trans hE70_72
  have hE71_73 := (oE71 73 (by decide)).trans hE70_73
  have hE71_74 := (oE71 74 (by decide)).trans hE70_74
  have hE71_75 := (oE71 75 (by decide)).trans hE70_75
  have hE71_76 := (oE71 76 (by decide)).trans hE70_76
  have hE71_77 := (oE71 77 (by decide)).trans hE70_77
  have hE71_78 := (oE71 78 (by decide)).trans hE70_78
  have hE71_79 := (oE71 79 (by decide)).trans hE70_79
  have hE71_80 := (oE71 80 (by decide)).trans hE70_80
  have hE71_81 := (oE71 81 (by decide)).trans hE70_81
  have hE71_82 := (oE71 82 (by decide)).trans hE70_82
  have hE71_83 := (oE71 83 (by decide)).trans hE70_83
  have hE71_84 := (oE71 84 (by decide)).trans hE70_84
  have hE71_85 := (oE71 85 (by decide)).trans hE70_85
  have hE71_86 := (oE71 86 (by decide)).trans hE70_86
  have hE71_87 := (oE71 87 (by decide)).trans hE70_87
  have hE71_88 := (oE71 88 (by decide)).trans hE70_88
  have hE71_89 := (oE71 89 (by decide)).trans hE70_89
  have hE71_90 := (oE71 90 (by decide)).trans hNE70
  have hE71_68 : E71 68 = ob 9 (rfo ad69 [some 69, none, none, none, none, none, some 70, none, some 71, some 72, some 73, some 74, some 75, some 76, some 77, some 78, none, none, none, some 79, some 80, some 81, some 82, some 83, some 84, some 85, some 86, some 87, some 88, some 89, some 90, none, none, none, none, none, none, none, none, none, none, none]) (va_up (va_up (va_up (va_up (va_up ip0 1 4) 2 100) 3 1) 4 7) 18 99999) := hE71_68
  refine v_aload_n C 0 dX9_init_209 rfl rfl ?_
  refine v_bipush (v := 10) C dX9_init_210 (by decide) ?_
  refine w_newI (N := 10) C dX9_init_212 ac_int (by decide) (by decide) (by decide) (by decide) (by decide) (fun ad72 E73 hAE73 hNE73 oNE73 => ?_)
  have aad72_68 := hAE73 68 (by decide)
  refine v_cast (lv' := [(0, .ref (ad72 68))]) (st' := [.ref (ad72 91), .ref (ad72 68)]) (by rw [aad72_68]) (by rw [aad72_68]) ?_
  have hNE73 : E73 91 = _ := hNE73
  have hE73_68 := (oNE73 68 (by decide)).trans hE71_68
  rw [rfo_new hAE73 (by first | decide | (simp; done) | (simp; omega))] at hE73_68
  have hE73_69 := (oNE73 69 (by decide)).trans hE71_69
  have hE73_70 := (oNE73 70 (by decide)).trans hE71_70
  have hE73_71 := (oNE73 71 (by decide)).trans hE71_71
  have hE73_72 := (oNE73 72 (by decide)).trans hE71_72
  have hE73_73 := (oNE73 73 (by decide)).trans hE71_73
  have hE73_74 := (oNE73 74 (by decide)).trans hE71_74
  have hE73_75 := (oNE73 75 (by decide)).trans hE71_75
  have hE73_76 := (oNE73 76 (by decide)).trans hE71_76
  have hE73_77 := (oNE73 77 (by decide)).trans hE71_77
  have hE73_78 := (oNE73 78 (by decide)).trans hE71_78
  have hE73_79 := (oNE73 79 (by decide)).trans hE71_79
  have hE73_80 := (oNE73 80 (by decide)).trans hE71_80
  have hE73_81 := (oNE73 81 (by decide)).trans hE71_81
  have hE73_82 := (oNE73 82 (by decide)).trans hE71_82
  have hE73_83 := (oNE73 83 (by decide)).trans hE71_83
  have hE73_84 := (oNE73 84 (by decide)).trans hE71_84
  have hE73_85 := (oNE73 85 (by decide)).trans hE71_85
  have hE73_86 := (oNE73 86 (by decide)).trans hE71_86
  have hE73_87 := (oNE73 87 (by decide)).trans hE71_87
  have hE73_88 := (oNE73 88 (by decide)).trans hE71_88
  have hE73_89 := (oNE73 89 (by decide)).trans hE71_89
  have hE73_90 := (oNE73 90 (by decide)).trans hE71_90
  refine v_putr C hin 68 dX9_init_214 fX9_94 (by decide) hE73_68 rfl rfl rfl rfl rfl (fun E74 hE74_68 oE74 => ?_)
  rw [rfo_set (by first | decide | exact Nat.le_of_ble_eq_true rfl)] at hE74_68
  have hE74_69 := (oE74 69 (by decide)).trans hE73_69
  have hE74_70 := (oE74 70 (by decide)).trans hE73_70
  have hE74_71 := (oE74 71 (by decide)).trans hE73_71
  have hE74_72 := (oE74 72 (by decide)).trans hE73_72
  have hE74_73 := (oE74 73 (by decide)).trans hE73_73
  have hE74_74 := (oE74 74 (by decide)).trans hE73_74
  have hE74_75 := (oE74 75 (by decide)).trans hE73_75
  have hE74_76 := (oE74 76 (by decide)).trans hE73_76
  have hE74_77 := (oE74 77 (by decide)).trans hE73_77
  have hE74_78 := (oE74 78 (by decide)).trans hE73_78
  have hE74_79 := (oE74 79 (by decide)).trans hE73_79
  have hE74_80 := (oE74 80 (by decide)).trans hE73_80
  have hE74_81 := (oE74 81 (by decide)).trans hE73_81
  have hE74_82 := (oE74 82 (by decide)).trans hE73_82
  have hE74_83 := (oE74 83 (by decide)).trans hE73_83
  have hE74_84 := (oE74 84 (by decide)).trans hE73_84
  have hE74_85 := (oE74 85 (by decide)).trans hE73_85
  have hE74_86 := (oE74 86 (by decide)).trans hE73_86
  have hE74_87 := (oE74 87 (by decide)).trans hE73_87
  have hE74_88 := (oE74 88 (by decide)).trans hE73_88
  have hE74_89 := (oE74 89 (by decide)).trans hE73_89
  have hE74_90 := (oE74 90 (by decide)).trans hE73_90
  have hE74_91 := (oE74 91 (by decide)).trans hNE73
  have hE74_68 : E74 68 = ob 9 (rfo ad72 [some 69, none, none, none, none, none, some 70, none, some 71, some 72, some 73, some 74, some 75, some 76, some 77, some 78, none, none, none, some 79, some 80, some 81, some 82, some 83, some 84, some 85, some 86, some 87, some 88, some 89, some 90, some 91, none, none, none, none, none, none, none, none, none, none]) (va_up (va_up (va_up (va_up (va_up ip0 1 4) 2 100) 3 1) 4 7) 18 99999) := hE74_68
  refine v_aload_n C 0 dX9_init_217 rfl rfl ?_
  refine v_bipush (v := 8) C dX9_init_218 (by decide) ?_
  refine w_newI (N := 8) C dX9_init_220 ac_int (by decide) (by decide) (by decide) (by decide) (by decide) (fun ad75 E76 hAE76 hNE76 oNE76 => ?_)
  have aad75_68 := hAE76 68 (by decide)
  refine v_cast (lv' := [(0, .ref (ad75 68))]) (st' := [.ref (ad75 92), .ref (ad75 68)]) (by rw [aad75_68]) (by rw [aad75_68]) ?_
  have hNE76 : E76 92 = _ := hNE76
  have hE76_68 := (oNE76 68 (by decide)).trans hE74_68
  rw [rfo_new hAE76 (by first | decide | (simp; done) | (simp; omega))] at hE76_68
  have hE76_69 := (oNE76 69 (by decide)).trans hE74_69
  have hE76_70 := (oNE76 70 (by decide)).trans hE74_70
  have hE76_71 := (oNE76 71 (by decide)).trans hE74_71
  have hE76_72 := (oNE76 72 (by decide)).trans hE74_72
  have hE76_73 := (oNE76 73 (by decide)).trans hE74_73
  have hE76_74 := (oNE76 74 (by decide)).trans hE74_74
  have hE76_75 := (oNE76 75 (by decide)).trans hE74_75
  have hE76_76 := (oNE76 76 (by decide)).trans hE74_76
  have hE76_77 := (oNE76 77 (by decide)).trans hE74_77
  have hE76_78 := (oNE76 78 (by decide)).trans hE74_78
  have hE76_79 := (oNE76 79 (by decide)).trans hE74_79
  have hE76_80 := (oNE76 80 (by decide)).trans hE74_80
  have hE76_81 := (oNE76 81 (by decide)).trans hE74_81
  have hE76_82 := (oNE76 82 (by decide)).trans hE74_82
  have hE76_83 := (oNE76 83 (by decide)).trans hE74_83
  have hE76_84 := (oNE76 84 (by decide)).trans hE74_84
  have hE76_85 := (oNE76 85 (by decide)).trans hE74_85
  have hE76_86 := (oNE76 86 (by decide)).trans hE74_86
  have hE76_87 := (oNE76 87 (by decide)).trans hE74_87
  have hE76_88 := (oNE76 88 (by decide)).trans hE74_88
  have hE76_89 := (oNE76 89 (by decide)).trans hE74_89
  have hE76_90 := (oNE76 90 (by decide)).trans hE74_90
  have hE76_91 := (oNE76 91 (by decide)).trans hE74_91
  refine v_putr C hin 68 dX9_init_222 fX9_97 (by decide) hE76_68 rfl rfl rfl rfl rfl (fun E77 hE77_68 oE77 => ?_)
  rw [rfo_set (by first | decide | exact Nat.le_of_ble_eq_true rfl)] at hE77_68
  have hE77_69 := (oE77 69 (by decide)).trans hE76_69
  have hE77_70 := (oE77 70 (by decide)).trans hE76_70
  have hE77_71 := (oE77 71 (by decide)).trans hE76_71
  have hE77_72 := (oE77 72 (by decide)).trans hE76_72
  have hE77_73 := (oE77 73 (by decide)).trans hE76_73
  have hE77_74 := (oE77 74 (by decide)).trans hE76_74
  have hE77_75 := (oE77 75 (by decide)).trans hE76_75
  have hE77_76 := (oE77 76 (by decide)).trans hE76_76
  have hE77_77 := (oE77 77 (by decide)).trans hE76_77
  have hE77_78 := (oE77 78 (by decide)).trans hE76_78
  have hE77_79 := (oE77 79 (by decide)).trans hE76_79
  have hE77_80 := (oE77 80 (by decide)).trans hE76_80
  have hE77_81 := (oE77 81 (by decide)).trans hE76_81
  have hE77_82 := (oE77 82 (by decide)).trans hE76_82
  have hE77_83 := (oE77 83 (by decide)).trans hE76_83
  have hE77_84 := (oE77 84 (by decide)).trans hE76_84
  have hE77_85 := (oE77 85 (by decide)).trans hE76_85
  have hE77_86 := (oE77 86 (by decide)).trans hE76_86
  have hE77_87 := (oE77 87 (by decide)).trans hE76_87
  have hE77_88 := (oE77 88 (by decide)).trans hE76_88
  have hE77_89 := (oE77 89 (by decide)).trans hE76_89
  have hE77_90 := (oE77 90 (by decide)).trans hE76_90
  have hE77_91 := (oE77 91 (by decide)).trans hE76_91
  have hE77_92 := (oE77 92 (by decide)).trans hNE76
  have hE77_68 : E77 68 = ob 9 (rfo ad75 [some 69, none, none, none, none, none, some 70, none, some 71, some 72, some 73, some 74, some 75, some 76, some 77, some 78, none, none, none, some 79, some 80, some 81, some 82, some 83, some 84, some 85, some 86, some 87, some 88, some 89, some 90, some 91, none, some 92, none, none, none, none, none, none, none, none]) (va_up (va_up (va_up (va_up (va_up ip0 1 4) 2 100) 3 1) 4 7) 18 99999) := hE77_68
  refine v_aload_n C 0 dX9_init_225 rfl rfl ?_
  refine v_bipush (v := 8) C dX9_init_226 (by decide) ?_
  refine w_newI (N := 8) C dX9_init_228 ac_int (by decide) (by decide) (by decide) (by decide) (by decide) (fun ad78 E79 hAE79 hNE79 oNE79 => ?_)
  have aad78_68 := hAE79 68 (by decide)
  refine v_cast (lv' := [(0, .ref (ad78 68))]) (st' := [.ref (ad78 93), .ref (ad78 68)]) (by rw [aad78_68]) (by rw [aad78_68]) ?_
  have hNE79 : E79 93 = _ := hNE79
  have hE79_68 := (oNE79 68 (by decide)).trans hE77_68
  rw [rfo_new hAE79 (by first | decide | (simp; done) | (simp; omega))] at hE79_68
  have hE79_69 := (oNE79 69 (by decide)).trans hE77_69
  have hE79_70 := (oNE79 70 (by decide)).trans hE77_70
  have hE79_71 := (oNE79 71 (by decide)).trans hE77_71
  have hE79_72 := (oNE79 72 (by decide)).trans hE77_72
  have hE79_73 := (oNE79 73 (by decide)).trans hE77_73
  have hE79_74 := (oNE79 74 (by decide)).trans hE77_74
  have hE79_75 := (oNE79 75 (by decide)).trans hE77_75
  have hE79_76 := (oNE79 76 (by decide)).trans hE77_76
  have hE79_77 := (oNE79 77 (by decide)).trans hE77_77
  have hE79_78 := (oNE79 78 (by decide)).trans hE77_78
  have hE79_79 := (oNE79 79 (by decide)).trans hE77_79
  have hE79_80 := (oNE79 80 (by decide)).trans hE77_80
  have hE79_81 := (oNE79 81 (by decide)).trans hE77_81
  have hE79_82 := (oNE79 82 (by decide)).trans hE77_82
  have hE79_83 := (oNE79 83 (by decide)).trans hE77_83
  have hE79_84 := (oNE79 84 (by decide)).trans hE77_84
  have hE79_85 := (oNE79 85 (by decide)).trans hE77_85
  have hE79_86 := (oNE79 86 (by decide)).trans hE77_86
  have hE79_87 := (oNE79 87 (by decide)).trans hE77_87
  have hE79_88 := (oNE79 88 (by decide)).trans hE77_88
  have hE79_89 := (oNE79 89 (by decide)).trans hE77_89
  have hE79_90 := (oNE79 90 (by decide)).trans hE77_90
  have hE79_91 := (oNE79 91 (by decide)).trans hE77_91
  have hE79_92 := (oNE79 92 (by decide)).trans hE77_92
  refine v_putr C hin 68 dX9_init_230 fX9_100 (by decide) hE79_68 rfl rfl rfl rfl rfl (fun E80 hE80_68 oE80 => ?_)
  rw [rfo_set (by first | decide | exact Nat.le_of_ble_eq_true rfl)] at hE80_68
  have hE80_69 := (oE80 69 (by decide)).trans hE79_69
  have hE80_70 := (oE80 70 (by decide)).trans hE79_70
  have hE80_71 := (oE80 71 (by decide)).trans hE79_71
  have hE80_72 := (oE80 72 (by decide)).trans hE79_72
  have hE80_73 := (oE80 73 (by decide)).trans hE79_73
  have hE80_74 := (oE80 74 (by decide)).trans hE79_74
  have hE80_75 := (oE80 75 (by decide)).trans hE79_75
  have hE80_76 := (oE80 76 (by decide)).trans hE79_76
  have hE80_77 := (oE80 77 (by decide)).trans hE79_77
  have hE80_78 := (oE80 78 (by decide)).trans hE79_78
  have hE80_79 := (oE80 79 (by decide)).trans hE79_79
  have hE80_80 := (oE80 80 (by decide)).trans hE79_80
  have hE80_81 := (oE80 81 (by decide)).trans hE79_81
  have hE80_82 := (oE80 82 (by decide)).trans hE79_82
  have hE80_83 := (oE80 83 (by decide)).trans hE79_83
  have hE80_84 := (oE80 84 (by decide)).trans hE79_84
  have hE80_85 := (oE80 85 (by decide)).trans hE79_85
  have hE80_86 := (oE80 86 (by decide)).trans hE79_86
  have hE80_87 := (oE80 87 (by decide)).trans hE79_87
  have hE80_88 := (oE80 88 (by decide)).trans hE79_88
  have hE80_89 := (oE80 89 (by decide)).trans hE79_89
  have hE80_90 := (oE80 90 (by decide)).trans hE79_90
  have hE80_91 := (oE80 91 (by decide)).trans hE79_91
  have hE80_92 := (oE80 92 (by decide)).trans hE79_92
  have hE80_93 := (oE80 93 (by decide)).trans hNE79
  have hE80_68 : E80 68 = ob 9 (rfo ad78 [some 69, none, none, none, none, none, some 70, none, some 71, some 72, some 73, some 74, some 75, some 76, some 77, some 78, none, none, none, some 79, some 80, some 81, some 82, some 83, some 84, some 85, some 86, some 87, some 88, some 89, some 90, some 91, none, some 92, some 93, none, none, none, none, none, none, none]) (va_up (va_up (va_up (va_up (va_up ip0 1 4) 2 100) 3 1) 4 7) 18 99999) := hE80_68
  refine v_aload_n C 0 dX9_init_233 rfl rfl ?_
  refine v_bipush (v := 10) C dX9_init_234 (by decide) ?_
  refine w_newI (N := 10) C dX9_init_236 ac_int (by decide) (by decide) (by decide) (by decide) (by decide) (fun ad81 E82 hAE82 hNE82 oNE82 => ?_)
  have aad81_68 := hAE82 68 (by decide)
  refine v_cast (lv' := [(0, .ref (ad81 68))]) (st' := [.ref (ad81 94), .ref (ad81 68)]) (by rw [aad81_68]) (by rw [aad81_68]) ?_
  have hNE82 : E82 94 = _ := hNE82
  have hE82_68 := (oNE82 68 (by decide)).trans hE80_68
  rw [rfo_new hAE82 (by first | decide | (simp; done) | (simp; omega))] at hE82_68
  have hE82_69 := (oNE82 69 (by decide)).trans hE80_69
  have hE82_70 := (oNE82 70 (by decide)).trans hE80_70
  have hE82_71 := (oNE82 71 (by decide)).trans hE80_71
  have hE82_72 := (oNE82 72 (by decide)).trans hE80_72
  have hE82_73 := (oNE82 73 (by decide)).trans hE80_73
  have hE82_74 := (oNE82 74 (by decide)).trans hE80_74
  have hE82_75 := (oNE82 75 (by decide)).trans hE80_75
  have hE82_76 := (oNE82 76 (by decide)).trans hE80_76
  have hE82_77 := (oNE82 77 (by decide)).trans hE80_77
  have hE82_78 := (oNE82 78 (by decide)).trans hE80_78
  have hE82_79 := (oNE82 79 (by decide)).trans hE80_79
  have hE82_80 := (oNE82 80 (by decide)).trans hE80_80
  have hE82_81 := (oNE82 81 (by decide)).trans hE80_81
  have hE82_82 := (oNE82 82 (by decide)).trans hE80_82
  have hE82_83 := (oNE82 83 (by decide)).trans hE80_83
  have hE82_84 := (oNE82 84 (by decide)).trans hE80_84
  have hE82_85 := (oNE82 85 (by decide)).trans hE80_85
  have hE82_86 := (oNE82 86 (by decide)).trans hE80_86
  have hE82_87 := (oNE82 87 (by decide)).trans hE80_87
  have hE82_88 := (oNE82 88 (by decide)).trans hE80_88
  have hE82_89 := (oNE82 89 (by decide)).trans hE80_89
  have hE82_90 := (oNE82 90 (by decide)).trans hE80_90
  have hE82_91 := (oNE82 91 (by decide)).trans hE80_91
  have hE82_92 := (oNE82 92 (by decide)).trans hE80_92
  have hE82_93 := (oNE82 93 (by decide)).trans hE80_93
  refine v_putr C hin 68 dX9_init_238 fX9_103 (by decide) hE82_68 rfl rfl rfl rfl rfl (fun E83 hE83_68 oE83 => ?_)
  rw [rfo_set (by first | decide | exact Nat.le_of_ble_eq_true rfl)] at hE83_68
  have hE83_69 := (oE83 69 (by decide)).trans hE82_69
  have hE83_70 := (oE83 70 (by decide)).trans hE82_70
  have hE83_71 := (oE83 71 (by decide)).trans hE82_71
  have hE83_72 := (oE83 72 (by decide)).trans hE82_72
  have hE83_73 := (oE83 73 (by decide)).trans hE82_73
  have hE83_74 := (oE83 74 (by decide)).trans hE82_74
  have hE83_75 := (oE83 75 (by decide)).trans hE82_75
  have hE83_76 := (oE83 76 (by decide)).trans hE82_76
  have hE83_77 := (oE83 77 (by decide)).trans hE82_77
  have hE83_78 := (oE83 78 (by decide)).trans hE82_78
  have hE83_79 := (oE83 79 (by decide)).trans hE82_79
  have hE83_80 := (oE83 80 (by decide)).trans hE82_80
  have hE83_81 := (oE83 81 (by decide)).trans hE82_81
  have hE83_82 := (oE83 82 (by decide)).trans hE82_82
  have hE83_83 := (oE83 83 (by decide)).trans hE82_83
  have hE83_84 := (oE83 84 (by decide)).trans hE82_84
  have hE83_85 := (oE83 85 (by decide)).trans hE82_85
  have hE83_86 := (oE83 86 (by decide)).trans hE82_86
  have hE83_87 := (oE83 87 (by decide)).trans hE82_87
  have hE83_88 := (oE83 88 (by decide)).trans hE82_88
  have hE83_89 := (oE83 89 (by decide)).trans hE82_89
  have hE83_90 := (oE83 90 (by decide)).trans hE82_90
  have hE83_91 := (oE83 91 (by decide)).trans hE82_91
  have hE83_92 := (oE83 92 (by decide)).trans hE82_92
  have hE83_93 := (oE83 93 (by decide)).trans hE82_93
  have hE83_94 := (oE83 94 (by decide)).trans hNE82
  have hE83_68 : E83 68 = ob 9 (rfo ad81 [some 69, none, none, none, none, none, some 70, none, some 71, some 72, some 73, some 74, some 75, some 76, some 77, some 78, none, none, none, some 79, some 80, some 81, some 82, some 83, some 84, some 85, some 86, some 87, some 88, some 89, some 90, some 91, none, some 92, some 93, none, some 94, none, none, none, none, none]) (va_up (va_up (va_up (va_up (va_up ip0 1 4) 2 100) 3 1) 4 7) 18 99999) := hE83_68
  refine v_aload_n C 0 dX9_init_241 rfl rfl ?_
  refine v_bipush (v := 10) C dX9_init_242 (by decide) ?_
  refine w_newI (N := 10) C dX9_init_244 ac_int (by decide) (by decide) (by decide) (by decide) (by decide) (fun ad84 E85 hAE85 hNE85 oNE85 => ?_)
  have aad84_68 := hAE85 68 (by decide)
  refine v_cast (lv' := [(0, .ref (ad84 68))]) (st' := [.ref (ad84 95), .ref (ad84 68)]) (by rw [aad84_68]) (by rw [aad84_68]) ?_
  have hNE85 : E85 95 = _ := hNE85
  have hE85_68 := (oNE85 68 (by decide)).trans hE83_68
  rw [rfo_new hAE85 (by first | decide | (simp; done) | (simp; omega))] at hE85_68
  have hE85_69 := (oNE85 69 (by decide)).trans hE83_69
  have hE85_70 := (oNE85 70 (by decide)).trans hE83_70
  have hE85_71 := (oNE85 71 (by decide)).trans hE83_71
  have hE85_72 := (oNE85 72 (by decide)).trans hE83_72
  have hE85_73 := (oNE85 73 (by decide)).trans hE83_73
  have hE85_74 := (oNE85 74 (by decide)).trans hE83_74
  have hE85_75 := (oNE85 75 (by decide)).trans hE83_75
  have hE85_76 := (oNE85 76 (by decide)).trans hE83_76
  have hE85_77 := (oNE85 77 (by decide)).trans hE83_77
  have hE85_78 := (oNE85 78 (by decide)).trans hE83_78
  have hE85_79 := (oNE85 79 (by decide)).trans hE83_79
  have hE85_80 := (oNE85 80 (by decide)).trans hE83_80
  have hE85_81 := (oNE85 81 (by decide)).trans hE83_81
  have hE85_82 := (oNE85 82 (by decide)).trans hE83_82
  have hE85_83 := (oNE85 83 (by decide)).trans hE83_83
  have hE85_84 := (oNE85 84 (by decide)).trans hE83_84
  have hE85_85 := (oNE85 85 (by decide)).trans hE83_85
  have hE85_86 := (oNE85 86 (by decide)).trans hE83_86
  have hE85_87 := (oNE85 87 (by decide)).trans hE83_87
  have hE85_88 := (oNE85 88 (by decide)).trans hE83_88
  have hE85_89 := (oNE85 89 (by decide)).trans hE83_89
  have hE85_90 := (oNE85 90 (by decide)).trans hE83_90
  have hE85_91 := (oNE85 91 (by decide)).trans hE83_91
  have hE85_92 := (oNE85 92 (by decide)).trans hE83_92
  have hE85_93 := (oNE85 93 (by decide)).trans hE83_93
  have hE85_94 := (oNE85 94 (by decide)).trans hE83_94
  refine v_putr C hin 68 dX9_init_246 fX9_106 (by decide) hE85_68 rfl rfl rfl rfl rfl (fun E86 hE86_68 oE86 => ?_)
  rw [rfo_set (by first | decide | exact Nat.le_of_ble_eq_true rfl)] at hE86_68
  have hE86_69 := (oE86 69 (by decide)).trans hE85_69
  have hE86_70 := (oE86 70 (by decide)).trans hE85_70
  have hE86_71 := (oE86 71 (by decide)).trans hE85_71
  have hE86_72 := (oE86 72 (by decide)).trans hE85_72
  have hE86_73 := (oE86 73 (by decide)).trans hE85_73
  have hE86_74 := (oE86 74 (by decide)).trans hE85_74
  have hE86_75 := (oE86 75 (by decide)).trans hE85_75
  have hE86_76 := (oE86 76 (by decide)).trans hE85_76
  have hE86_77 := (oE86 77 (by decide)).trans hE85_77
  have hE86_78 := (oE86 78 (by decide)).trans hE85_78
  have hE86_79 := (oE86 79 (by decide)).trans hE85_79
  have hE86_80 := (oE86 80 (by decide)).trans hE85_80
  have hE86_81 := (oE86 81 (by decide)).trans hE85_81
  have hE86_82 := (oE86 82 (by decide)).trans hE85_82
  have hE86_83 := (oE86 83 (by decide)).trans hE85_83
  have hE86_84 := (oE86 84 (by decide)).trans hE85_84
  have hE86_85 := (oE86 85 (by decide)).trans hE85_85
  have hE86_86 := (oE86 86 (by decide)).trans hE85_86
  have hE86_87 := (oE86 87 (by decide)).trans hE85_87
  have hE86_88 := (oE86 88 (by decide)).trans hE85_88
  have hE86_89 := (oE86 89 (by decide)).trans hE85_89
  have hE86_90 := (oE86 90 (by decide)).trans hE85_90
  have hE86_91 := (oE86 91 (by decide)).trans hE85_91
  have hE86_92 := (oE86 92 (by decide)).trans hE85_92
  have hE86_93 := (oE86 93 (by decide)).trans hE85_93
  have hE86_94 := (oE86 94 (by decide)).trans hE85_94
  have hE86_95 := (oE86 95 (by decide)).trans hNE85
  have hE86_68 : E86 68 = ob 9 (rfo ad84 [some 69, none, none, none, none, none, some 70, none, some 71, some 72, some 73, some 74, some 75, some 76, some 77, some 78, none, none, none, some 79, some 80, some 81, some 82, some 83, some 84, some 85, some 86, some 87, some 88, some 89, some 90, some 91, none, some 92, some 93, none, some 94, some 95, none, none, none, none]) (va_up (va_up (va_up (va_up (va_up ip0 1 4) 2 100) 3 1) 4 7) 18 99999) := hE86_68
  refine v_aload_n C 0 dX9_init_249 rfl rfl ?_
  refine v_bipush (v := 10) C dX9_init_250 (by decide) ?_
  refine w_newI (N := 10) C dX9_init_252 ac_int (by decide) (by decide) (by decide) (by decide) (by decide) (fun ad87 E88 hAE88 hNE88 oNE88 => ?_)
  have aad87_68 := hAE88 68 (by decide)
  refine v_cast (lv' := [(0, .ref (ad87 68))]) (st' := [.ref (ad87 96), .ref (ad87 68)]) (by rw [aad87_68]) (by rw [aad87_68]) ?_
  have hNE88 : E88 96 = _ := hNE88
  have hE88_68 := (oNE88 68 (by decide)).trans hE86_68
  rw [rfo_new hAE88 (by first | decide | (simp; done) | (simp; omega))] at hE88_68
  have hE88_69 := (oNE88 69 (by decide)).trans hE86_69
  have hE88_70 := (oNE88 70 (by decide)).trans hE86_70
  have hE88_71 := (oNE88 71 (by decide)).trans hE86_71
  have hE88_72 := (oNE88 72 (by decide)).trans hE86_72
  have hE88_73 := (oNE88 73 (by decide)).trans hE86_73
  have hE88_74 := (oNE88 74 (by decide)).trans hE86_74
  have hE88_75 := (oNE88 75 (by decide)).trans hE86_75
  have hE88_76 := (oNE88 76 (by decide)).trans hE86_76
  have hE88_77 := (oNE88 77 (by decide)).trans hE86_77
  have hE88_78 := (oNE88 78 (by decide)).trans hE86_78
  have hE88_79 := (oNE88 79 (by decide)).trans hE86_79
  have hE88_80 := (oNE88 80 (by decide)).trans hE86_80
  have hE88_81 := (oNE88 81 (by decide)).trans hE86_81
  have hE88_82 := (oNE88 82 (by decide)).trans hE86_82
  have hE88_83 := (oNE88 83 (by decide)).trans hE86_83
  have hE88_84 := (oNE88 84 (by decide)).trans hE86_84
  have hE88_85 := (oNE88 85 (by decide)).trans hE86_85
  have hE88_86 := (oNE88 86 (by decide)).trans hE86_86
  have hE88_87 := (oNE88 87 (by decide)).trans hE86_87
  have hE88_88 := (oNE88 88 (by decide)).trans hE86_88
  have hE88_89 := (oNE88 89 (by decide)).trans hE86_89
  have hE88_90 := (oNE88 90 (by decide)).trans hE86_90
  have hE88_91 := (oNE88 91 (by decide)).trans hE86_91
  have hE88_92 := (oNE88 92 (by decide)).trans hE86_92
  have hE88_93 := (oNE88 93 (by decide)).trans hE86_93
  have hE88_94 := (oNE88 94 (by decide)).trans hE86_94
  have hE88_95 := (oNE88 95 (by decide)).trans hE86_95
  refine v_putr C hin 68 dX9_init_254 fX9_109 (by decide) hE88_68 rfl rfl rfl rfl rfl (fun E89 hE89_68 oE89 => ?_)
  rw [rfo_set (by first | decide | exact Nat.le_of_ble_eq_true rfl)] at hE89_68
  have hE89_69 := (oE89 69 (by decide)).trans hE88_69
  have hE89_70 := (oE89 70 (by decide)).trans hE88_70
  have hE89_71 := (oE89 71 (by decide)).trans hE88_71
  have hE89_72 := (oE89 72 (by decide)).trans hE88_72
  have hE89_73 := (oE89 73 (by decide)).trans hE88_73
  have hE89_74 := (oE89 74 (by decide)).trans hE88_74
  have hE89_75 := (oE89 75 (by decide)).trans hE88_75
  have hE89_76 := (oE89 76 (by decide)).trans hE88_76
  have hE89_77 := (oE89 77 (by decide)).trans hE88_77
  have hE89_78 := (oE89 78 (by decide)).trans hE88_78
  have hE89_79 := (oE89 79 (by decide)).trans hE88_79
  have hE89_80 := (oE89 80 (by decide)).trans hE88_80
  have hE89_81 := (oE89 81 (by decide)).trans hE88_81
  have hE89_82 := (oE89 82 (by decide)).trans hE88_82
  have hE89_83 := (oE89 83 (by decide)).trans hE88_83
  have hE89_84 := (oE89 84 (by decide)).trans hE88_84
  have hE89_85 := (oE89 85 (by decide)).trans hE88_85
  have hE89_86 := (oE89 86 (by decide)).trans hE88_86
  have hE89_87 := (oE89 87 (by decide)).trans hE88_87
  have hE89_88 := (oE89 88 (by decide)).trans hE88_88
  have hE89_89 := (oE89 89 (by decide)).trans hE88_89
  have hE89_90 := (oE89 90 (by decide)).trans hE88_90
  have hE89_91 := (oE89 91 (by decide)).trans hE88_91
  have hE89_92 := (oE89 92 (by decide)).trans hE88_92
  have hE89_93 := (oE89 93 (by decide)).trans hE88_93
  have hE89_94 := (oE89 94 (by decide)).trans hE88_94
  have hE89_95 := (oE89 95 (by decide)).trans hE88_95
  have hE89_96 := (oE89 96 (by decide)).trans hNE88
  have hE89_68 : E89 68 = ob 9 (rfo ad87 [some 69, none, none, none, none, none, some 70, none, some 71, some 72, some 73, some 74, some 75, some 76, some 77, some 78, none, none, none, some 79, some 80, some 81, some 82, some 83, some 84, some 85, some 86, some 87, some 88, some 89, some 90, some 91, none, some 92, some 93, none, some 94, some 95, some 96, none, none, none]) (va_up (va_up (va_up (va_up (va_up ip0 1 4) 2 100) 3 1) 4 7) 18 99999) := hE89_68
  refine v_aload_n C 0 dX9_init_257 rfl rfl ?_
  refine v_ldc C dX9_init_258 kX9_112 ?_
  refine w_newI (N := 40000) C dX9_init_260 ac_int (by decide) (by decide) (by decide) (by decide) (by decide) (fun ad90 E91 hAE91 hNE91 oNE91 => ?_)
  have aad90_68 := hAE91 68 (by decide)
  refine v_cast (lv' := [(0, .ref (ad90 68))]) (st' := [.ref (ad90 97), .ref (ad90 68)]) (by rw [aad90_68]) (by rw [aad90_68]) ?_
  have hNE91 : E91 97 = _ := hNE91
  have hE91_68 := (oNE91 68 (by decide)).trans hE89_68
  rw [rfo_new hAE91 (by first | decide | (simp; done) | (simp; omega))] at hE91_68
  have hE91_69 := (oNE91 69 (by decide)).trans hE89_69
  have hE91_70 := (oNE91 70 (by decide)).trans hE89_70
  have hE91_71 := (oNE91 71 (by decide)).trans hE89_71
  have hE91_72 := (oNE91 72 (by decide)).trans hE89_72
  have hE91_73 := (oNE91 73 (by decide)).trans hE89_73
  have hE91_74 := (oNE91 74 (by decide)).trans hE89_74
  have hE91_75 := (oNE91 75 (by decide)).trans hE89_75
  have hE91_76 := (oNE91 76 (by decide)).trans hE89_76
  have hE91_77 := (oNE91 77 (by decide)).trans hE89_77
  have hE91_78 := (oNE91 78 (by decide)).trans hE89_78
  have hE91_79 := (oNE91 79 (by decide)).trans hE89_79
  have hE91_80 := (oNE91 80 (by decide)).trans hE89_80
  have hE91_81 := (oNE91 81 (by decide)).trans hE89_81
  have hE91_82 := (oNE91 82 (by decide)).trans hE89_82
  have hE91_83 := (oNE91 83 (by decide)).trans hE89_83
  have hE91_84 := (oNE91 84 (by decide)).trans hE89_84
  have hE91_85 := (oNE91 85 (by decide)).trans hE89_85
  have hE91_86 := (oNE91 86 (by decide)).trans hE89_86
  have hE91_87 := (oNE91 87 (by decide)).trans hE89_87
  have hE91_88 := (oNE91 88 (by decide)).trans hE89_88
  have hE91_89 := (oNE91 89 (by decide)).trans hE89_89
  have hE91_90 := (oNE91 90 (by decide)).trans hE89_90
  have hE91_91 := (oNE91 91 (by decide)).trans hE89_91
  have hE91_92 := (oNE91 92 (by decide)).trans hE89_92
  have hE91_93 := (oNE91 93 (by decide)).trans hE89_93
  have hE91_94 := (oNE91 94 (by decide)).trans hE89_94
  have hE91_95 := (oNE91 95 (by decide)).trans hE89_95
  have hE91_96 := (oNE91 96 (by decide)).trans hE89_96
  refine v_putr C hin 68 dX9_init_262 fX9_113 (by decide) hE91_68 rfl rfl rfl rfl rfl (fun E92 hE92_68 oE92 => ?_)
  rw [rfo_set (by first | decide | exact Nat.le_of_ble_eq_true rfl)] at hE92_68
  have hE92_69 := (oE92 69 (by decide)).trans hE91_69
  have hE92_70 := (oE92 70 (by decide)).trans hE91_70
  have hE92_71 := (oE92 71 (by decide)).trans hE91_71
  have hE92_72 := (oE92 72 (by decide)).trans hE91_72
  have hE92_73 := (oE92 73 (by decide)).trans hE91_73
  have hE92_74 := (oE92 74 (by decide)).trans hE91_74
  have hE92_75 := (oE92 75 (by decide)).trans hE91_75
  have hE92_76 := (oE92 76 (by decide)).trans hE91_76
  have hE92_77 := (oE92 77 (by decide)).trans hE91_77
  have hE92_78 := (oE92 78 (by decide)).trans hE91_78
  have hE92_79 := (oE92 79 (by decide)).trans hE91_79
  have hE92_80 := (oE92 80 (by decide)).trans hE91_80
  have hE92_81 := (oE92 81 (by decide)).trans hE91_81
  have hE92_82 := (oE92 82 (by decide)).trans hE91_82
  have hE92_83 := (oE92 83 (by decide)).trans hE91_83
  have hE92_84 := (oE92 84 (by decide)).trans hE91_84
  have hE92_85 := (oE92 85 (by decide)).trans hE91_85
  have hE92_86 := (oE92 86 (by decide)).trans hE91_86
  have hE92_87 := (oE92 87 (by decide)).trans hE91_87
  have hE92_88 := (oE92 88 (by decide)).trans hE91_88
  have hE92_89 := (oE92 89 (by decide)).trans hE91_89
  have hE92_90 := (oE92 90 (by decide)).trans hE91_90
  have hE92_91 := (oE92 91 (by decide)).trans hE91_91
  have hE92_92 := (oE92 92 (by decide)).trans hE91_92
  have hE92_93 := (oE92 93 (by decide)).trans hE91_93
  have hE92_94 := (oE92 94 (by decide)).trans hE91_94
  have hE92_95 := (oE92 95 (by decide)).trans hE91_95
  have hE92_96 := (oE92 96 (by decide)).trans hE91_96
  have hE92_97 := (oE92 97 (by decide)).trans hNE91
  have hE92_68 : E92 68 = ob 9 (rfo ad90 [some 69, none, none, none, none, none, some 70, none, some 71, some 72, some 73, some 74, some 75, some 76, some 77, some 78, none, none, none, some 79, some 80, some 81, some 82, some 83, some 84, some 85, some 86, some 87, some 88, some 89, some 90, some 91, none, some 92, some 93, none, some 94, some 95, some 96, none, some 97, none]) (va_up (va_up (va_up (va_up (va_up ip0 1 4) 2 100) 3 1) 4 7) 18 99999) := hE92_68
  refine v_iconst (v := 0) C dX9_init_265 (by decide) ?_
  refine v_istore_n (lv' := [(0, .ref (ad90 68)), (1, .int 0)]) C [1, 0] dX9_init_266 rfl (by decide) rfl ?_
  refine v_iload_n C 1 dX9_init_267 rfl rfl ?_
  refine v_bipush (v := 12) C dX9_init_268 (by decide) ?_
  refine b_icmp_ge C 287 dX9_init_270 (by decide) (show (0 : Int32).toInt = 0 by decide) (show (12 : Int32).toInt = 12 by decide) (fun c93 => absurd c93 (by decide)) (fun c93 => ?_)
  refine v_aload_n C 0 dX9_init_273 rfl rfl ?_
  refine v_getr C 68 dX9_init_274 fX9_9 (by decide) hE92_68 rfl rfl ?_
  refine v_iload_n C 1 dX9_init_277 rfl rfl ?_
  refine v_bipush (v := 30) C dX9_init_278 (by decide) ?_
  refine v_ast C 69 dX9_init_280 (by decide) hE92_69 (ti_in (show (0 : Int32).toInt = 0 by decide) (by omega) (by omega)) (fun E94 hE94_69 oE94 => ?_)
  rw [ti_cl (show (0 : Int32).toInt = 0 by decide), show Int.toNat 0 = 0 by omega] at hE94_69
  have hE94_68 := (oE94 68 (by decide)).trans hE92_68
  have hE94_70 := (oE94 70 (by decide)).trans hE92_70
  have hE94_71 := (oE94 71 (by decide)).trans hE92_71
  have hE94_72 := (oE94 72 (by decide)).trans hE92_72
  have hE94_73 := (oE94 73 (by decide)).trans hE92_73
  have hE94_74 := (oE94 74 (by decide)).trans hE92_74
  have hE94_75 := (oE94 75 (by decide)).trans hE92_75
  have hE94_76 := (oE94 76 (by decide)).trans hE92_76
  have hE94_77 := (oE94 77 (by decide)).trans hE92_77
  have hE94_78 := (oE94 78 (by decide)).trans hE92_78
  have hE94_79 := (oE94 79 (by decide)).trans hE92_79
  have hE94_80 := (oE94 80 (by decide)).trans hE92_80
  have hE94_81 := (oE94 81 (by decide)).trans hE92_81
  have hE94_82 := (oE94 82 (by decide)).trans hE92_82
  have hE94_83 := (oE94 83 (by decide)).trans hE92_83
  have hE94_84 := (oE94 84 (by decide)).trans hE92_84
  have hE94_85 := (oE94 85 (by decide)).trans hE92_85
  have hE94_86 := (oE94 86 (by decide)).trans hE92_86
  have hE94_87 := (oE94 87 (by decide)).trans hE92_87
  have hE94_88 := (oE94 88 (by decide)).trans hE92_88
  have hE94_89 := (oE94 89 (by decide)).trans hE92_89
  have hE94_90 := (oE94 90 (by decide)).trans hE92_90
  have hE94_91 := (oE94 91 (by decide)).trans hE92_91
  have hE94_92 := (oE94 92 (by decide)).trans hE92_92
  have hE94_93 := (oE94 93 (by decide)).trans hE92_93
  have hE94_94 := (oE94 94 (by decide)).trans hE92_94
  have hE94_95 := (oE94 95 (by decide)).trans hE92_95
  have hE94_96 := (oE94 96 (by decide)).trans hE92_96
  have hE94_97 := (oE94 97 (by decide)).trans hE92_97
  refine v_iinc (v := 1) (lv' := [(0, .ref (ad90 68)), (1, .int 1)]) C 1 [1, 0] dX9_init_281 rfl (by decide) (by decide) rfl ?_
  refine v_goto C 267 dX9_init_284 (by decide) ?_
  refine v_iload_n C 1 dX9_init_267 rfl rfl ?_
  refine v_bipush (v := 12) C dX9_init_268 (by decide) ?_
  refine b_icmp_ge C 287 dX9_init_270 (by decide) (show (1 : Int32).toInt = 1 by decide) (show (12 : Int32).toInt = 12 by decide) (fun c95 => absurd c95 (by decide)) (fun c95 => ?_)
  refine v_aload_n C 0 dX9_init_273 rfl rfl ?_
  refine v_getr C 68 dX9_init_274 fX9_9 (by decide) hE94_68 rfl rfl ?_
  refine v_iload_n C 1 dX9_init_277 rfl rfl ?_
  refine v_bipush (v := 30) C dX9_init_278 (by decide) ?_
  refine v_ast C 69 dX9_init_280 (by decide) hE94_69 (ti_in (show (1 : Int32).toInt = 1 by decide) (by omega) (by omega)) (fun E96 hE96_69 oE96 => ?_)
  rw [ti_cl (show (1 : Int32).toInt = 1 by decide), show Int.toNat 1 = 1 by omega] at hE96_69
  have hE96_68 := (oE96 68 (by decide)).trans hE94_68
  have hE96_70 := (oE96 70 (by decide)).trans hE94_70
  have hE96_71 := (oE96 71 (by decide)).trans hE94_71
  have hE96_72 := (oE96 72 (by decide)).trans hE94_72
  have hE96_73 := (oE96 73 (by decide)).trans hE94_73
  have hE96_74 := (oE96 74 (by decide)).trans hE94_74
  have hE96_75 := (oE96 75 (by decide)).trans hE94_75
  have hE96_76 := (oE96 76 (by decide)).trans hE94_76
  have hE96_77 := (oE96 77 (by decide)).trans hE94_77
  have hE96_78 := (oE96 78 (by decide)).trans hE94_78
  have hE96_79 := (oE96 79 (by decide)).trans hE94_79
  have hE96_80 := (oE96 80 (by decide)).trans hE94_80
  have hE96_81 := (oE96 81 (by decide)).trans hE94_81
  have hE96_82 := (oE96 82 (by decide)).trans hE94_82
  have hE96_83 := (oE96 83 (by decide)).trans hE94_83
  have hE96_84 := (oE96 84 (by decide)).trans hE94_84
  have hE96_85 := (oE96 85 (by decide)).trans hE94_85
  have hE96_86 := (oE96 86 (by decide)).trans hE94_86
  have hE96_87 := (oE96 87 (by decide)).trans hE94_87
  have hE96_88 := (oE96 88 (by decide)).trans hE94_88
  have hE96_89 := (oE96 89 (by decide)).trans hE94_89
  have hE96_90 := (oE96 90 (by decide)).trans hE94_90
  have hE96_91 := (oE96 91 (by decide)).trans hE94_91
  have hE96_92 := (oE96 92 (by decide)).trans hE94_92
  have hE96_93 := (oE96 93 (by decide)).trans hE94_93
  have hE96_94 := (oE96 94 (by decide)).trans hE94_94
  have hE96_95 := (oE96 95 (by decide)).trans hE94_95
  have hE96_96 := (oE96 96 (by decide)).trans hE94_96
  have hE96_97 := (oE96 97 (by decide)).trans hE94_97
  refine v_iinc (v := 2) (lv' := [(0, .ref (ad90 68)), (1, .int 2)]) C 1 [1, 0] dX9_init_281 rfl (by decide) (by decide) rfl ?_
  refine v_goto C 267 dX9_init_284 (by decide) ?_
  refine v_iload_n C 1 dX9_init_267 rfl rfl ?_
  refine v_bipush (v := 12) C dX9_init_268 (by decide) ?_
  refine b_icmp_ge C 287 dX9_init_270 (by decide) (show (2 : Int32).toInt = 2 by decide) (show (12 : Int32).toInt = 12 by decide) (fun c97 => absurd c97 (by decide)) (fun c97 => ?_)
  refine v_aload_n C 0 dX9_init_273 rfl rfl ?_
  refine v_getr C 68 dX9_init_274 fX9_9 (by decide) hE96_68 rfl rfl ?_
  refine v_iload_n C 1 dX9_init_277 rfl rfl ?_
  refine v_bipush (v := 30) C dX9_init_278 (by decide) ?_
  refine v_ast C 69 dX9_init_280 (by decide) hE96_69 (ti_in (show (2 : Int32).toInt = 2 by decide) (by omega) (by omega)) (fun E98 hE98_69 oE98 => ?_)
  rw [ti_cl (show (2 : Int32).toInt = 2 by decide), show Int.toNat 2 = 2 by omega] at hE98_69
  have hE98_68 := (oE98 68 (by decide)).trans hE96_68
  have hE98_70 := (oE98 70 (by decide)).trans hE96_70
  have hE98_71 := (oE98 71 (by decide)).trans hE96_71
  have hE98_72 := (oE98 72 (by decide)).trans hE96_72
  have hE98_73 := (oE98 73 (by decide)).trans hE96_73
  have hE98_74 := (oE98 74 (by decide)).trans hE96_74
  have hE98_75 := (oE98 75 (by decide)).trans hE96_75
  have hE98_76 := (oE98 76 (by decide)).trans hE96_76
  have hE98_77 := (oE98 77 (by decide)).trans hE96_77
  have hE98_78 := (oE98 78 (by decide)).trans hE96_78
  have hE98_79 := (oE98 79 (by decide)).trans hE96_79
  have hE98_80 := (oE98 80 (by decide)).trans hE96_80
  have hE98_81 := (oE98 81 (by decide)).trans hE96_81
  have hE98_82 := (oE98 82 (by decide)).trans hE96_82
  have hE98_83 := (oE98 83 (by decide)).trans hE96_83
  have hE98_84 := (oE98 84 (by decide)).trans hE96_84
  have hE98_85 := (oE98 85 (by decide)).trans hE96_85
  have hE98_86 := (oE98 86 (by decide)).trans hE96_86
  have hE98_87 := (oE98 87 (by decide)).trans hE96_87
  have hE98_88 := (oE98 88 (by decide)).trans hE96_88
  have hE98_89 := (oE98 89 (by decide)).trans hE96_89
  have hE98_90 := (oE98 90 (by decide)).trans hE96_90
  have hE98_91 := (oE98 91 (by decide)).trans hE96_91
  have hE98_92 := (oE98 92 (by decide)).trans hE96_92
  have hE98_93 := (oE98 93 (by decide)).trans hE96_93
  have hE98_94 := (oE98 94 (by decide)).trans hE96_94
  have hE98_95 := (oE98 95 (by decide)).trans hE96_95
  have hE98_96 := (oE98 96 (by decide)).trans hE96_96
  have hE98_97 := (oE98 97 (by decide)).trans hE96_97
  refine v_iinc (v := 3) (lv' := [(0, .ref (ad90 68)), (1, .int 3)]) C 1 [1, 0] dX9_init_281 rfl (by decide) (by decide) rfl ?_
  refine v_goto C 267 dX9_init_284 (by decide) ?_
  refine v_iload_n C 1 dX9_init_267 rfl rfl ?_
  refine v_bipush (v := 12) C dX9_init_268 (by decide) ?_
  refine b_icmp_ge C 287 dX9_init_270 (by decide) (show (3 : Int32).toInt = 3 by decide) (show (12 : Int32).toInt = 12 by decide) (fun c99 => absurd c99 (by decide)) (fun c99 => ?_)
  refine v_aload_n C 0 dX9_init_273 rfl rfl ?_
  refine v_getr C 68 dX9_init_274 fX9_9 (by decide) hE98_68 rfl rfl ?_
  refine v_iload_n C 1 dX9_init_277 rfl rfl ?_
  refine v_bipush (v := 30) C dX9_init_278 (by decide) ?_
  refine v_ast C 69 dX9_init_280 (by decide) hE98_69 (ti_in (show (3 : Int32).toInt = 3 by decide) (by omega) (by omega)) (fun E100 hE100_69 oE100 => ?_)
  rw [ti_cl (show (3 : Int32).toInt = 3 by decide), show Int.toNat 3 = 3 by omega] at hE100_69
  have hE100_68 := (oE100 68 (by decide)).trans hE98_68
  have hE100_70 := (oE100 70 (by decide)).trans hE98_70
  have hE100_71 := (oE100 71 (by decide)).trans hE98_71
  have hE100_72 := (oE100 72 (by decide)).trans hE98_72
  have hE100_73 := (oE100 73 (by decide)).trans hE98_73
  have hE100_74 := (oE100 74 (by decide)).trans hE98_74
  have hE100_75 := (oE100 75 (by decide)).trans hE98_75
  have hE100_76 := (oE100 76 (by decide)).trans hE98_76
  have hE100_77 := (oE100 77 (by decide)).trans hE98_77
  have hE100_78 := (oE100 78 (by decide)).trans hE98_78
  have hE100_79 := (oE100 79 (by decide)).trans hE98_79
  have hE100_80 := (oE100 80 (by decide)).trans hE98_80
  have hE100_81 := (oE100 81 (by decide)).trans hE98_81
  have hE100_82 := (oE100 82 (by decide)).trans hE98_82
  have hE100_83 := (oE100 83 (by decide)).trans hE98_83
  have hE100_84 := (oE100 84 (by decide)).trans hE98_84
  have hE100_85 := (oE100 85 (by decide)).trans hE98_85
  have hE100_86 := (oE100 86 (by decide)).trans hE98_86
  have hE100_87 := (oE100 87 (by decide)).trans hE98_87
  have hE100_88 := (oE100 88 (by decide)).trans hE98_88
  have hE100_89 := (oE100 89 (by decide)).trans hE98_89
  have hE100_90 := (oE100 90 (by decide)).trans hE98_90
  have hE100_91 := (oE100 91 (by decide)).trans hE98_91
  have hE100_92 := (oE100 92 (by decide)).trans hE98_92
  have hE100_93 := (oE100 93 (by decide)).trans hE98_93
  have hE100_94 := (oE100 94 (by decide)).trans hE98_94
  have hE100_95 := (oE100 95 (by decide)).trans hE98_95
  have hE100_96 := (oE100 96 (by decide)).trans hE98_96
  have hE100_97 := (oE100 97 (by decide)).trans hE98_97
  refine v_iinc (v := 4) (lv' := [(0, .ref (ad90 68)), (1, .int 4)]) C 1 [1, 0] dX9_init_281 rfl (by decide) (by decide) rfl ?_
  refine v_goto C 267 dX9_init_284 (by decide) ?_
  refine v_iload_n C 1 dX9_init_267 rfl rfl ?_
  refine v_bipush (v := 12) C dX9_init_268 (by decide) ?_
  refine b_icmp_ge C 287 dX9_init_270 (by decide) (show (4 : Int32).toInt = 4 by decide) (show (12 : Int32).toInt = 12 by decide) (fun c101 => absurd c101 (by decide)) (fun c101 => ?_)
  refine v_aload_n C 0 dX9_init_273 rfl rfl ?_
  refine v_getr C 68 dX9_init_274 fX9_9 (by decide) hE100_68 rfl rfl ?_
  refine v_iload_n C 1 dX9_init_277 rfl rfl ?_
  refine v_bipush (v := 30) C dX9_init_278 (by decide) ?_
  refine v_ast C 69 dX9_init_280 (by decide) hE100_69 (ti_in (show (4 : Int32).toInt = 4 by decide) (by omega) (by omega)) (fun E102 hE102_69 oE102 => ?_)
  rw [ti_cl (show (4 : Int32).toInt = 4 by decide), show Int.toNat 4 = 4 by omega] at hE102_69
  have hE102_68 := (oE102 68 (by decide)).trans hE100_68
  have hE102_70 := (oE102 70 (by decide)).trans hE100_70
  have hE102_71 := (oE102 71 (by decide)).trans hE100_71
  have hE102_72 := (oE102 72 (by decide)).trans hE100_72
  have hE102_73 := (oE102 73 (by decide)).trans hE100_73
  have hE102_74 := (oE102 74 (by decide)).trans hE100_74
  have hE102_75 := (oE102 75 (by decide)).trans hE100_75
  have hE102_76 := (oE102 76 (by decide)).trans hE100_76
  have hE102_77 := (oE102 77 (by decide)).trans hE100_77
  have hE102_78 := (oE102 78 (by decide)).trans hE100_78
  have hE102_79 := (oE102 79 (by decide)).trans hE100_79
  have hE102_80 := (oE102 80 (by decide)).trans hE100_80
  have hE102_81 := (oE102 81 (by decide)).trans hE100_81
  have hE102_82 := (oE102 82 (by decide)).trans hE100_82
  have hE102_83 := (oE102 83 (by decide)).trans hE100_83
  have hE102_84 := (oE102 84 (by decide)).trans hE100_84
  have hE102_85 := (oE102 85 (by decide)).trans hE100_85
  have hE102_86 := (oE102 86 (by decide)).trans hE100_86
  have hE102_87 := (oE102 87 (by decide)).trans hE100_87
  have hE102_88 := (oE102 88 (by decide)).trans hE100_88
  have hE102_89 := (oE102 89 (by decide)).trans hE100_89
  have hE102_90 := (oE102 90 (by decide)).trans hE100_90
  have hE102_91 := (oE102 91 (by decide)).trans hE100_91
  have hE102_92 := (oE102 92 (by decide)).trans hE100_92
  have hE102_93 := (oE102 93 (by decide)).trans hE100_93
  have hE102_94 := (oE102 94 (by decide)).trans hE100_94
  have hE102_95 := (oE102 95 (by decide)).trans hE100_95
  have hE102_96 := (oE102 96 (by decide)).trans hE100_96
  have hE102_97 := (oE102 97 (by decide)).trans hE100_97
  refine v_iinc (v := 5) (lv' := [(0, .ref (ad90 68)), (1, .int 5)]) C 1 [1, 0] dX9_init_281 rfl (by decide) (by decide) rfl ?_
  refine v_goto C 267 dX9_init_284 (by decide) ?_
  refine v_iload_n C 1 dX9_init_267 rfl rfl ?_
  refine v_bipush (v := 12) C dX9_init_268 (by decide) ?_
  refine b_icmp_ge C 287 dX9_init_270 (by decide) (show (5 : Int32).toInt = 5 by decide) (show (12 : Int32).toInt = 12 by decide) (fun c103 => absurd c103 (by decide)) (fun c103 => ?_)
  refine v_aload_n C 0 dX9_init_273 rfl rfl ?_
  refine v_getr C 68 dX9_init_274 fX9_9 (by decide) hE102_68 rfl rfl ?_
  refine v_iload_n C 1 dX9_init_277 rfl rfl ?_
  refine v_bipush (v := 30) C dX9_init_278 (by decide) ?_
  refine v_ast C 69 dX9_init_280 (by decide) hE102_69 (ti_in (show (5 : Int32).toInt = 5 by decide) (by omega) (by omega)) (fun E104 hE104_69 oE104 => ?_)
  rw [ti_cl (show (5 : Int32).toInt = 5 by decide), show Int.toNat 5 = 5 by omega] at hE104_69
  have hE104_68 := (oE104 68 (by decide)).trans hE102_68
  have hE104_70 := (oE104 70 (by decide)).trans hE102_70
  have hE104_71 := (oE104 71 (by decide)).trans hE102_71
  have hE104_72 := (oE104 72 (by decide)).trans hE102_72
  have hE104_73 := (oE104 73 (by decide)).trans hE102_73
  have hE104_74 := (oE104 74 (by decide)).trans hE102_74
  have hE104_75 := (oE104 75 (by decide)).trans hE102_75
  have hE104_76 := (oE104 76 (by decide)).trans hE102_76
  have hE104_77 := (oE104 77 (by decide)).trans hE102_77
  have hE104_78 := (oE104 78 (by decide)).trans hE102_78
  have hE104_79 := (oE104 79 (by decide)).trans hE102_79
  have hE104_80 := (oE104 80 (by decide)).trans hE102_80
  have hE104_81 := (oE104 81 (by decide)).trans hE102_81
  have hE104_82 := (oE104 82 (by decide)).trans hE102_82
  have hE104_83 := (oE104 83 (by decide)).trans hE102_83
  have hE104_84 := (oE104 84 (by decide)).trans hE102_84
  have hE104_85 := (oE104 85 (by decide)).trans hE102_85
  have hE104_86 := (oE104 86 (by decide)).trans hE102_86
  have hE104_87 := (oE104 87 (by decide)).trans hE102_87
  have hE104_88 := (oE104 88 (by decide)).trans hE102_88
  have hE104_89 := (oE104 89 (by decide)).trans hE102_89
  have hE104_90 := (oE104 90 (by decide)).trans hE102_90
  have hE104_91 := (oE104 91 (by decide)).trans hE102_91
  have hE104_92 := (oE104 92 (by decide)).trans hE102_92
  have hE104_93 := (oE104 93 (by decide)).trans hE102_93
  have hE104_94 := (oE104 94 (by decide)).trans hE102_94
  have hE104_95 := (oE104 95 (by decide)).trans hE102_95
  have hE104_96 := (oE104 96 (by decide)).trans hE102_96
  have hE104_97 := (oE104 97 (by decide)).trans hE102_97
  refine v_iinc (v := 6) (lv' := [(0, .ref (ad90 68)), (1, .int 6)]) C 1 [1, 0] dX9_init_281 rfl (by decide) (by decide) rfl ?_
  refine v_goto C 267 dX9_init_284 (by decide) ?_
  refine v_iload_n C 1 dX9_init_267 rfl rfl ?_
  refine v_bipush (v := 12) C dX9_init_268 (by decide) ?_
  refine b_icmp_ge C 287 dX9_init_270 (by decide) (show (6 : Int32).toInt = 6 by decide) (show (12 : Int32).toInt = 12 by decide) (fun c105 => absurd c105 (by decide)) (fun c105 => ?_)
  refine v_aload_n C 0 dX9_init_273 rfl rfl ?_
  refine v_getr C 68 dX9_init_274 fX9_9 (by decide) hE104_68 rfl rfl ?_
  refine v_iload_n C 1 dX9_init_277 rfl rfl ?_
  refine v_bipush (v := 30) C dX9_init_278 (by decide) ?_
  refine v_ast C 69 dX9_init_280 (by decide) hE104_69 (ti_in (show (6 : Int32).toInt = 6 by decide) (by omega) (by omega)) (fun E106 hE106_69 oE106 => ?_)
  rw [ti_cl (show (6 : Int32).toInt = 6 by decide), show Int.toNat 6 = 6 by omega] at hE106_69
  have hE106_68 := (oE106 68 (by decide)).trans hE104_68
  have hE106_70 := (oE106 70 (by decide)).trans hE104_70
  have hE106_71 := (oE106 71 (by decide)).trans hE104_71
  have hE106_72 := (oE106 72 (by decide)).trans hE104_72
  have hE106_73 := (oE106 73 (by decide)).trans hE104_73
  have hE106_74 := (oE106 74 (by decide)).trans hE104_74
  have hE106_75 := (oE106 75 (by decide)).trans hE104_75
  have hE106_76 := (oE106 76 (by decide)).trans hE104_76
  have hE106_77 := (oE106 77 (by decide)).trans hE104_77
  have hE106_78 := (oE106 78 (by decide)).trans hE104_78
  have hE106_79 := (oE106 79 (by decide)).trans hE104_79
  have hE106_80 := (oE106 80 (by decide)).trans hE104_80
  have hE106_81 := (oE106 81 (by decide)).trans hE104_81
  have hE106_82 := (oE106 82 (by decide)).trans hE104_82
  have hE106_83 := (oE106 83 (by decide)).trans hE104_83
  have hE106_84 := (oE106 84 (by decide)).trans hE104_84
  have hE106_85 := (oE106 85 (by decide)).trans hE104_85
  have hE106_86 := (oE106 86 (by decide)).trans hE104_86
  have hE106_87 := (oE106 87 (by decide)).trans hE104_87
  have hE106_88 := (oE106 88 (by decide)).trans hE104_88
  have hE106_89 := (oE106 89 (by decide)).trans hE104_89
  have hE106_90 := (oE106 90 (by decide)).trans hE104_90
  have hE106_91 := (oE106 91 (by decide)).trans hE104_91
  have hE106_92 := (oE106 92 (by decide)).trans hE104_92
  have hE106_93 := (oE106 93 (by decide)).trans hE104_93
  have hE106_94 := (oE106 94 (by decide)).trans hE104_94
  have hE106_95 := (oE106 95 (by decide)).trans hE104_95
  have hE106_96 := (oE106 96 (by decide)).trans hE104_96
  have hE106_97 := (oE106 97 (by decide)).trans hE104_97
  refine v_iinc (v := 7) (lv' := [(0, .ref (ad90 68)), (1, .int 7)]) C 1 [1, 0] dX9_init_281 rfl (by decide) (by decide) rfl ?_
  refine v_goto C 267 dX9_init_284 (by decide) ?_
  refine v_iload_n C 1 dX9_init_267 rfl rfl ?_
  refine v_bipush (v := 12) C dX9_init_268 (by decide) ?_
  refine b_icmp_ge C 287 dX9_init_270 (by decide) (show (7 : Int32).toInt = 7 by decide) (show (12 : Int32).toInt = 12 by decide) (fun c107 => absurd c107 (by decide)) (fun c107 => ?_)
  refine v_aload_n C 0 dX9_init_273 rfl rfl ?_
  refine v_getr C 68 dX9_init_274 fX9_9 (by decide) hE106_68 rfl rfl ?_
  refine v_iload_n C 1 dX9_init_277 rfl rfl ?_
  refine v_bipush (v := 30) C dX9_init_278 (by decide) ?_
  refine v_ast C 69 dX9_init_280 (by decide) hE106_69 (ti_in (show (7 : Int32).toInt = 7 by decide) (by omega) (by omega)) (fun E108 hE108_69 oE108 => ?_)
  rw [ti_cl (show (7 : Int32).toInt = 7 by decide), show Int.toNat 7 = 7 by omega] at hE108_69
  have hE108_68 := (oE108 68 (by decide)).trans hE106_68
  have hE108_70 := (oE108 70 (by decide)).trans hE106_70
  have hE108_71 := (oE108 71 (by decide)).trans hE106_71
  have hE108_72 := (oE108 72 (by decide)).trans hE106_72
  have hE108_73 := (oE108 73 (by decide)).trans hE106_73
  have hE108_74 := (oE108 74 (by decide)).trans hE106_74
  have hE108_75 := (oE108 75 (by decide)).trans hE106_75
  have hE108_76 := (oE108 76 (by decide)).trans hE106_76
  have hE108_77 := (oE108 77 (by decide)).trans hE106_77
  have hE108_78 := (oE108 78 (by decide)).trans hE106_78
  have hE108_79 := (oE108 79 (by decide)).trans hE106_79
  have hE108_80 := (oE108 80 (by decide)).trans hE106_80
  have hE108_81 := (oE108 81 (by decide)).trans hE106_81
  have hE108_82 := (oE108 82 (by decide)).trans hE106_82
  have hE108_83 := (oE108 83 (by decide)).trans hE106_83
  have hE108_84 := (oE108 84 (by decide)).trans hE106_84
  have hE108_85 := (oE108 85 (by decide)).trans hE106_85
  have hE108_86 := (oE108 86 (by decide)).trans hE106_86
  have hE108_87 := (oE108 87 (by decide)).trans hE106_87
  have hE108_88 := (oE108 88 (by decide)).trans hE106_88
  have hE108_89 := (oE108 89 (by decide)).trans hE106_89
  have hE108_90 := (oE108 90 (by decide)).trans hE106_90
  have hE108_91 := (oE108 91 (by decide)).trans hE106_91
  have hE108_92 := (oE108 92 (by decide)).trans hE106_92
  have hE108_93 := (oE108 93 (by decide)).trans hE106_93
  have hE108_94 := (oE108 94 (by decide)).trans hE106_94
  have hE108_95 := (oE108 95 (by decide)).trans hE106_95
  have hE108_96 := (oE108 96 (by decide)).trans hE106_96
  have hE108_97 := (oE108 97 (by decide)).trans hE106_97
  refine v_iinc (v := 8) (lv' := [(0, .ref (ad90 68)), (1, .int 8)]) C 1 [1, 0] dX9_init_281 rfl (by decide) (by decide) rfl ?_
  refine v_goto C 267 dX9_init_284 (by decide) ?_
  refine v_iload_n C 1 dX9_init_267 rfl rfl ?_
  refine v_bipush (v := 12) C dX9_init_268 (by decide) ?_
  refine b_icmp_ge C 287 dX9_init_270 (by decide) (show (8 : Int32).toInt = 8 by decide) (show (12 : Int32).toInt = 12 by decide) (fun c109 => absurd c109 (by decide)) (fun c109 => ?_)
  refine v_aload_n C 0 dX9_init_273 rfl rfl ?_
  refine v_getr C 68 dX9_init_274 fX9_9 (by decide) hE108_68 rfl rfl ?_
  refine v_iload_n C 1 dX9_init_277 rfl rfl ?_
  refine v_bipush (v := 30) C dX9_init_278 (by decide) ?_
  refine v_ast C 69 dX9_init_280 (by decide) hE108_69 (ti_in (show (8 : Int32).toInt = 8 by decide) (by omega) (by omega)) (fun E110 hE110_69 oE110 => ?_)
  rw [ti_cl (show (8 : Int32).toInt = 8 by decide), show Int.toNat 8 = 8 by omega] at hE110_69
  have hE110_68 := (oE110 68 (by decide)).trans hE108_68
  have hE110_70 := (oE110 70 (by decide)).trans hE108_70
  have hE110_71 := (oE110 71 (by decide)).trans hE108_71
  have hE110_72 := (oE110 72 (by decide)).trans hE108_72
  have hE110_73 := (oE110 73 (by decide)).trans hE108_73
  have hE110_74 := (oE110 74 (by decide)).trans hE108_74
  have hE110_75 := (oE110 75 (by decide)).trans hE108_75
  have hE110_76 := (oE110 76 (by decide)).trans hE108_76
  have hE110_77 := (oE110 77 (by decide)).trans hE108_77
  have hE110_78 := (oE110 78 (by decide)).trans hE108_78
  have hE110_79 := (oE110 79 (by decide)).trans hE108_79
  have hE110_80 := (oE110 80 (by decide)).trans hE108_80
  have hE110_81 := (oE110 81 (by decide)).trans hE108_81
  have hE110_82 := (oE110 82 (by decide)).trans hE108_82
  have hE110_83 := (oE110 83 (by decide)).trans hE108_83
  have hE110_84 := (oE110 84 (by decide)).trans hE108_84
  have hE110_85 := (oE110 85 (by decide)).trans hE108_85
  have hE110_86 := (oE110 86 (by decide)).trans hE108_86
  have hE110_87 := (oE110 87 (by decide)).trans hE108_87
  have hE110_88 := (oE110 88 (by decide)).trans hE108_88
  have hE110_89 := (oE110 89 (by decide)).trans hE108_89
  have hE110_90 := (oE110 90 (by decide)).trans hE108_90
  have hE110_91 := (oE110 91 (by decide)).trans hE108_91
  have hE110_92 := (oE110 92 (by decide)).trans hE108_92
  have hE110_93 := (oE110 93 (by decide)).trans hE108_93
  have hE110_94 := (oE110 94 (by decide)).trans hE108_94
  have hE110_95 := (oE110 95 (by decide)).trans hE108_95
  have hE110_96 := (oE110 96 (by decide)).trans hE108_96
  have hE110_97 := (oE110 97 (by decide)).trans hE108_97
  refine v_iinc (v := 9) (lv' := [(0, .ref (ad90 68)), (1, .int 9)]) C 1 [1, 0] dX9_init_281 rfl (by decide) (by decide) rfl ?_
  refine v_goto C 267 dX9_init_284 (by decide) ?_
  refine v_iload_n C 1 dX9_init_267 rfl rfl ?_
  refine v_bipush (v := 12) C dX9_init_268 (by decide) ?_
  refine b_icmp_ge C 287 dX9_init_270 (by decide) (show (9 : Int32).toInt = 9 by decide) (show (12 : Int32).toInt = 12 by decide) (fun c111 => absurd c111 (by decide)) (fun c111 => ?_)
  refine v_aload_n C 0 dX9_init_273 rfl rfl ?_
  refine v_getr C 68 dX9_init_274 fX9_9 (by decide) hE110_68 rfl rfl ?_
  refine v_iload_n C 1 dX9_init_277 rfl rfl ?_
  refine v_bipush (v := 30) C dX9_init_278 (by decide) ?_
  refine v_ast C 69 dX9_init_280 (by decide) hE110_69 (ti_in (show (9 : Int32).toInt = 9 by decide) (by omega) (by omega)) (fun E112 hE112_69 oE112 => ?_)
  rw [ti_cl (show (9 : Int32).toInt = 9 by decide), show Int.toNat 9 = 9 by omega] at hE112_69
  have hE112_68 := (oE112 68 (by decide)).trans hE110_68
  have hE112_70 := (oE112 70 (by decide)).trans hE110_70
  have hE112_71 := (oE112 71 (by decide)).trans hE110_71
  have hE112_72 := (oE112 72 (by decide)).trans hE110_72
  have hE112_73 := (oE112 73 (by decide)).trans hE110_73
  have hE112_74 := (oE112 74 (by decide)).trans hE110_74
  have hE112_75 := (oE112 75 (by decide)).trans hE110_75
  have hE112_76 := (oE112 76 (by decide)).trans hE110_76
  have hE112_77 := (oE112 77 (by decide)).trans hE110_77
  have hE112_78 := (oE112 78 (by decide)).trans hE110_78
  have hE112_79 := (oE112 79 (by decide)).trans hE110_79
  have hE112_80 := (oE112 80 (by decide)).trans hE110_80
  have hE112_81 := (oE112 81 (by decide)).trans hE110_81
  have hE112_82 := (oE112 82 (by decide)).trans hE110_82
  have hE112_83 := (oE112 83 (by decide)).trans hE110_83
  have hE112_84 := (oE112 84 (by decide)).trans hE110_84
  have hE112_85 := (oE112 85 (by decide)).trans hE110_85
  have hE112_86 := (oE112 86 (by decide)).trans hE110_86
  have hE112_87 := (oE112 87 (by decide)).trans hE110_87
  have hE112_88 := (oE112 88 (by decide)).trans hE110_88
  have hE112_89 := (oE112 89 (by decide)).trans hE110_89
  have hE112_90 := (oE112 90 (by decide)).trans hE110_90
  have hE112_91 := (oE112 91 (by decide)).trans hE110_91
  have hE112_92 := (oE112 92 (by decide)).trans hE110_92
  have hE112_93 := (oE112 93 (by decide)).trans hE110_93
  have hE112_94 := (oE112 94 (by decide)).trans hE110_94
  have hE112_95 := (oE112 95 (by decide)).trans hE110_95
  have hE112_96 := (oE112 96 (by decide)).trans hE110_96
  have hE112_97 := (oE112 97 (by decide)).trans hE110_97
  refine v_iinc (v := 10) (lv' := [(0, .ref (ad90 68)), (1, .int 10)]) C 1 [1, 0] dX9_init_281 rfl (by decide) (by decide) rfl ?_
  refine v_goto C 267 dX9_init_284 (by decide) ?_
  refine v_iload_n C 1 dX9_init_267 rfl rfl ?_
  refine v_bipush (v := 12) C dX9_init_268 (by decide) ?_
  refine b_icmp_ge C 287 dX9_init_270 (by decide) (show (10 : Int32).toInt = 10 by decide) (show (12 : Int32).toInt = 12 by decide) (fun c113 => absurd c113 (by decide)) (fun c113 => ?_)
  refine v_aload_n C 0 dX9_init_273 rfl rfl ?_
  refine v_getr C 68 dX9_init_274 fX9_9 (by decide) hE112_68 rfl rfl ?_
  refine v_iload_n C 1 dX9_init_277 rfl rfl ?_
  refine v_bipush (v := 30) C dX9_init_278 (by decide) ?_
  refine v_ast C 69 dX9_init_280 (by decide) hE112_69 (ti_in (show (10 : Int32).toInt = 10 by decide) (by omega) (by omega)) (fun E114 hE114_69 oE114 => ?_)
  rw [ti_cl (show (10 : Int32).toInt = 10 by decide), show Int.toNat 10 = 10 by omega] at hE114_69
  have hE114_68 := (oE114 68 (by decide)).trans hE112_68
  have hE114_70 := (oE114 70 (by decide)).trans hE112_70
  have hE114_71 := (oE114 71 (by decide)).trans hE112_71
  have hE114_72 := (oE114 72 (by decide)).trans hE112_72
  have hE114_73 := (oE114 73 (by decide)).trans hE112_73
  have hE114_74 := (oE114 74 (by decide)).trans hE112_74
  have hE114_75 := (oE114 75 (by decide)).trans hE112_75
  have hE114_76 := (oE114 76 (by decide)).trans hE112_76
  have hE114_77 := (oE114 77 (by decide)).trans hE112_77
  have hE114_78 := (oE114 78 (by decide)).trans hE112_78
  have hE114_79 := (oE114 79 (by decide)).trans hE112_79
  have hE114_80 := (oE114 80 (by decide)).trans hE112_80
  have hE114_81 := (oE114 81 (by decide)).trans hE112_81
  have hE114_82 := (oE114 82 (by decide)).trans hE112_82
  have hE114_83 := (oE114 83 (by decide)).trans hE112_83
  have hE114_84 := (oE114 84 (by decide)).trans hE112_84
  have hE114_85 := (oE114 85 (by decide)).trans hE112_85
  have hE114_86 := (oE114 86 (by decide)).trans hE112_86
  have hE114_87 := (oE114 87 (by decide)).trans hE112_87
  have hE114_88 := (oE114 88 (by decide)).trans hE112_88
  have hE114_89 := (oE114 89 (by decide)).trans hE112_89
  have hE114_90 := (oE114 90 (by decide)).trans hE112_90
  have hE114_91 := (oE114 91 (by decide)).trans hE112_91
  have hE114_92 := (oE114 92 (by decide)).trans hE112_92
  have hE114_93 := (oE114 93 (by decide)).trans hE112_93
  have hE114_94 := (oE114 94 (by decide)).trans hE112_94
  have hE114_95 := (oE114 95 (by decide)).trans hE112_95
  have hE114_96 := (oE114 96 (by decide)).trans hE112_96
  have hE114_97 := (oE114 97 (by decide)).trans hE112_97
  refine v_iinc (v := 11) (lv' := [(0, .ref (ad90 68)), (1, .int 11)]) C 1 [1, 0] dX9_init_281 rfl (by decide) (by decide) rfl ?_
  refine v_goto C 267 dX9_init_284 (by decide) ?_
  refine v_iload_n C 1 dX9_init_267 rfl rfl ?_
  refine v_bipush (v := 12) C dX9_init_268 (by decide) ?_
  refine b_icmp_ge C 287 dX9_init_270 (by decide) (show (11 : Int32).toInt = 11 by decide) (show (12 : Int32).toInt = 12 by decide) (fun c115 => absurd c115 (by decide)) (fun c115 => ?_)
  refine v_aload_n C 0 dX9_init_273 rfl rfl ?_
  refine v_getr C 68 dX9_init_274 fX9_9 (by decide) hE114_68 rfl rfl ?_
  refine v_iload_n C 1 dX9_init_277 rfl rfl ?_
  refine v_bipush (v := 30) C dX9_init_278 (by decide) ?_
  refine v_ast C 69 dX9_init_280 (by decide) hE114_69 (ti_in (show (11 : Int32).toInt = 11 by decide) (by omega) (by omega)) (fun E116 hE116_69 oE116 => ?_)
  rw [ti_cl (show (11 : Int32).toInt = 11 by decide), show Int.toNat 11 = 11 by omega] at hE116_69
  have hE116_68 := (oE116 68 (by decide)).trans hE114_68
  have hE116_70 := (oE116 70 (by decide)).trans hE114_70
  have hE116_71 := (oE116 71 (by decide)).trans hE114_71
  have hE116_72 := (oE116 72 (by decide)).trans hE114_72
  have hE116_73 := (oE116 73 (by decide)).trans hE114_73
  have hE116_74 := (oE116 74 (by decide)).trans hE114_74
  have hE116_75 := (oE116 75 (by decide)).trans hE114_75
  have hE116_76 := (oE116 76 (by decide)).trans hE114_76
  have hE116_77 := (oE116 77 (by decide)).trans hE114_77
  have hE116_78 := (oE116 78 (by decide)).trans hE114_78
  have hE116_79 := (oE116 79 (by decide)).trans hE114_79
  have hE116_80 := (oE116 80 (by decide)).trans hE114_80
  have hE116_81 := (oE116 81 (by decide)).trans hE114_81
  have hE116_82 := (oE116 82 (by decide)).trans hE114_82
  have hE116_83 := (oE116 83 (by decide)).trans hE114_83
  have hE116_84 := (oE116 84 (by decide)).trans hE114_84
  have hE116_85 := (oE116 85 (by decide)).trans hE114_85
  have hE116_86 := (oE116 86 (by decide)).trans hE114_86
  have hE116_87 := (oE116 87 (by decide)).trans hE114_87
  have hE116_88 := (oE116 88 (by decide)).trans hE114_88
  have hE116_89 := (oE116 89 (by decide)).trans hE114_89
  have hE116_90 := (oE116 90 (by decide)).trans hE114_90
  have hE116_91 := (oE116 91 (by decide)).trans hE114_91
  have hE116_92 := (oE116 92 (by decide)).trans hE114_92
  have hE116_93 := (oE116 93 (by decide)).trans hE114_93
  have hE116_94 := (oE116 94 (by decide)).trans hE114_94
  have hE116_95 := (oE116 95 (by decide)).trans hE114_95
  have hE116_96 := (oE116 96 (by decide)).trans hE114_96
  have hE116_97 := (oE116 97 (by decide)).trans hE114_97
  refine v_iinc (v := 12) (lv' := [(0, .ref (ad90 68)), (1, .int 12)]) C 1 [1, 0] dX9_init_281 rfl (by decide) (by decide) rfl ?_
  refine v_goto C 267 dX9_init_284 (by decide) ?_
  refine v_iload_n C 1 dX9_init_267 rfl rfl ?_
  refine v_bipush (v := 12) C dX9_init_268 (by decide) ?_
  refine b_icmp_ge C 287 dX9_init_270 (by decide) (show (12 : Int32).toInt = 12 by decide) (show (12 : Int32).toInt = 12 by decide) (fun c117 => ?_) (fun c117 => absurd c117 (by decide))
  exact v_nret C dX9_init_287 rfl rfl rfl rfl ⟨(fun j hj => ((hAE91 j (by omega)).trans ((hAE88 j (by omega)).trans ((hAE85 j (by omega)).trans ((hAE82 j (by omega)).trans ((hAE79 j (by omega)).trans ((hAE76 j (by omega)).trans ((hAE73 j (by omega)).trans ((hAE70 j (by omega)).trans ((hAE67 j (by omega)).trans ((hAE64 j (by omega)).trans ((hAE61 j (by omega)).trans ((hAE58 j (by omega)).trans ((hAE55 j (by omega)).trans ((hAE52 j (by omega)).trans ((hAE49 j (by omega)).trans ((hAE46 j (by omega)).trans ((hAE43 j (by omega)).trans ((hAE40 j (by omega)).trans ((hAE37 j (by omega)).trans ((hAE33 j (by omega)).trans ((hAE30 j (by omega)).trans ((hAE27 j (by omega)).trans ((hAE24 j (by omega)).trans ((hAE21 j (by omega)).trans ((hAE18 j (by omega)).trans ((hAE15 j (by omega)).trans ((hAE12 j (by omega)).trans ((hAE9 j (by omega)).trans (hAE2 j (by omega))))))))))))))))))))))))))))))), (fun j hj hne => ((oE116 j (by omega)).trans ((oE114 j (by omega)).trans ((oE112 j (by omega)).trans ((oE110 j (by omega)).trans ((oE108 j (by omega)).trans ((oE106 j (by omega)).trans ((oE104 j (by omega)).trans ((oE102 j (by omega)).trans ((oE100 j (by omega)).trans ((oE98 j (by omega)).trans ((oE96 j (by omega)).trans ((oE94 j (by omega)).trans ((oE92 j hne).trans ((oNE91 j (by omega)).trans ((oE89 j hne).trans ((oNE88 j (by omega)).trans ((oE86 j hne).trans ((oNE85 j (by omega)).trans ((oE83 j hne).trans ((oNE82 j (by omega)).trans ((oE80 j hne).trans ((oNE79 j (by omega)).trans ((oE77 j hne).trans ((oNE76 j (by omega)).trans ((oE74 j hne).trans ((oNE73 j (by omega)).trans ((oE71 j hne).trans ((oNE70 j (by omega)).trans ((oE68 j hne).trans ((oNE67 j (by omega)).trans ((oE65 j hne).trans ((oNE64 j (by omega)).trans ((oE62 j hne).trans ((oNE61 j (by omega)).trans ((oE59 j hne).trans ((oNE58 j (by omega)).trans ((oE56 j hne).trans ((oNE55 j (by omega)).trans ((oE53 j hne).trans ((oNE52 j (by omega)).trans ((oE50 j hne).trans ((oNE49 j (by omega)).trans ((oE47 j hne).trans ((oNE46 j (by omega)).trans ((oE44 j hne).trans ((oNE43 j (by omega)).trans ((oE41 j hne).trans ((oNE40 j (by omega)).trans ((oE38 j hne).trans ((oNE37 j (by omega)).trans ((oE35 j hne).trans ((oE34 j hne).trans ((oNE33 j (by omega)).trans ((oE31 j hne).trans ((oNE30 j (by omega)).trans ((oE28 j hne).trans ((oNE27 j (by omega)).trans ((oE25 j hne).trans ((oNE24 j (by omega)).trans ((oE22 j hne).trans ((oNE21 j (by omega)).trans ((oE19 j hne).trans ((oNE18 j (by omega)).trans ((oE16 j hne).trans ((oNE15 j (by omega)).trans ((oE13 j hne).trans ((oNE12 j (by omega)).trans ((oE10 j hne).trans ((oNE9 j (by omega)).trans ((oE7 j hne).trans ((oE6 j hne).trans ((oE5 j hne).trans ((oE4 j hne).trans ((oE3 j hne).trans (oNE2 j (by omega))))))))))))))))))))))))))))))))))))))))))))))))))))))))))))))))))))))))))))), ⟨fin9 _ _ hE116_68, hE116_69, hE116_70, hE116_71, hE116_72, hE116_73, hE116_74, hE116_75, hE116_76, hE116_77, hE116_78, hE116_79, hE116_80, hE116_81, hE116_82, hE116_83, hE116_84, hE116_85, hE116_86, hE116_87, hE116_88, hE116_89, hE116_90, hE116_91, hE116_92, hE116_93, hE116_94, hE116_95, hE116_96, hE116_97⟩⟩

