set_option maxRecDepth 20000 in
theorem k_Program (l : Launch) (G : Gl) (ad : Nat → Nat) (E : Nat → va_E) (b : Nat) (hEb : E b = ob 5 (rfo ad [none, none, none, none, none, none, none, none, none]) ip0)  : CtN l G yX5_init cX5_init 1 1 16 5 48 (b + 1) (b + 6) ad E [.ref (ad b)] (fun u => (∀ j, j < b + 1 → u.1 j = ad j) ∧ (∀ j, j < b + 1 → j ≠ b → u.2 j = E j) ∧ u.2 b = ob 5 (rfo u.1 [some (b + 1), some (b + 2), some (b + 3), some (b + 4), some (b + 5), none, none, none, none]) ip0 ∧ u.2 (b + 1) = aI G 10 (fun _ => 0) ∧ u.2 (b + 2) = aI G 10 (fun _ => 0) ∧ u.2 (b + 3) = aI G 10 (fun _ => 0) ∧ u.2 (b + 4) = aI G 10 (fun _ => 0) ∧ u.2 (b + 5) = aI G 8 (fun _ => 0)) := by
  refine CtN.of (by decide) (Nat.le_of_ble_eq_true rfl) (fun X A hin C => ?_)
  refine v_sub (lv' := [(0, .ref (ad b))]) [0] rfl ?_
  refine v_aload_n C 0 dX5_init_0 rfl rfl ?_
  refine v_obj C dX5_init_1 lX5_3 oi_inst oi_code ⟨by decide, by decide⟩ ?_
  refine v_aload_n C 0 dX5_init_4 rfl rfl ?_
  refine v_bipush (v := 10) C dX5_init_5 (by decide) ?_
  refine w_newI (N := 10) C dX5_init_7 ac_int (by decide) (by decide) (by decide) (by decide) (by decide) (fun ad1 E2 hAE2 hNE2 oNE2 => ?_)
  have aad1_b := hAE2 b (by omega)
  refine v_cast (lv' := [(0, .ref (ad1 b))]) (st' := [.ref (ad1 (b + 1)), .ref (ad1 b)]) (by rw [aad1_b]) (by rw [aad1_b]) ?_
  have hNE2 : E2 (b + 1) = _ := hNE2
  have hE2_b := (oNE2 b (by omega)).trans hEb
  rw [rfo_new hAE2 (by first | decide | (simp; done) | (simp; omega))] at hE2_b
  refine v_putr C hin b dX5_init_9 fX5_9 (by omega) hE2_b rfl rfl rfl rfl rfl (fun E3 hE3_b oE3 => ?_)
  rw [rfo_set (by first | decide | exact Nat.le_of_ble_eq_true rfl)] at hE3_b
  have hE3_b1 := (oE3 (b + 1) (by omega)).trans hNE2
  have hE3_b : E3 b = ob 5 (rfo ad1 [some (b + 1), none, none, none, none, none, none, none, none]) ip0 := hE3_b
  refine v_aload_n C 0 dX5_init_12 rfl rfl ?_
  refine v_bipush (v := 10) C dX5_init_13 (by decide) ?_
  refine w_newI (N := 10) C dX5_init_15 ac_int (by decide) (by decide) (by decide) (by decide) (by decide) (fun ad4 E5 hAE5 hNE5 oNE5 => ?_)
  have aad4_b := hAE5 b (by omega)
  refine v_cast (lv' := [(0, .ref (ad4 b))]) (st' := [.ref (ad4 (b + 2)), .ref (ad4 b)]) (by rw [aad4_b]) (by rw [aad4_b]) ?_
  have hNE5 : E5 (b + 2) = _ := hNE5
  have hE5_b := (oNE5 b (by omega)).trans hE3_b
  rw [rfo_new hAE5 (by first | decide | (simp; done) | (simp; omega))] at hE5_b
  have hE5_b1 := (oNE5 (b + 1) (by omega)).trans hE3_b1
  refine v_putr C hin b dX5_init_17 fX5_15 (by omega) hE5_b rfl rfl rfl rfl rfl (fun E6 hE6_b oE6 => ?_)
  rw [rfo_set (by first | decide | exact Nat.le_of_ble_eq_true rfl)] at hE6_b
  have hE6_b1 := (oE6 (b + 1) (by omega)).trans hE5_b1
  have hE6_b2 := (oE6 (b + 2) (by omega)).trans hNE5
  have hE6_b : E6 b = ob 5 (rfo ad4 [some (b + 1), some (b + 2), none, none, none, none, none, none, none]) ip0 := hE6_b
  refine v_aload_n C 0 dX5_init_20 rfl rfl ?_
  refine v_bipush (v := 10) C dX5_init_21 (by decide) ?_
  refine w_newI (N := 10) C dX5_init_23 ac_int (by decide) (by decide) (by decide) (by decide) (by decide) (fun ad7 E8 hAE8 hNE8 oNE8 => ?_)
  have aad7_b := hAE8 b (by omega)
  refine v_cast (lv' := [(0, .ref (ad7 b))]) (st' := [.ref (ad7 (b + 3)), .ref (ad7 b)]) (by rw [aad7_b]) (by rw [aad7_b]) ?_
  have hNE8 : E8 (b + 3) = _ := hNE8
  have hE8_b := (oNE8 b (by omega)).trans hE6_b
  rw [rfo_new hAE8 (by first | decide | (simp; done) | (simp; omega))] at hE8_b
  have hE8_b1 := (oNE8 (b + 1) (by omega)).trans hE6_b1
  have hE8_b2 := (oNE8 (b + 2) (by omega)).trans hE6_b2
  refine v_putr C hin b dX5_init_25 fX5_18 (by omega) hE8_b rfl rfl rfl rfl rfl (fun E9 hE9_b oE9 => ?_)
  rw [rfo_set (by first | decide | exact Nat.le_of_ble_eq_true rfl)] at hE9_b
  have hE9_b1 := (oE9 (b + 1) (by omega)).trans hE8_b1
  have hE9_b2 := (oE9 (b + 2) (by omega)).trans hE8_b2
  have hE9_b3 := (oE9 (b + 3) (by omega)).trans hNE8
  have hE9_b : E9 b = ob 5 (rfo ad7 [some (b + 1), some (b + 2), some (b + 3), none, none, none, none, none, none]) ip0 := hE9_b
  refine v_aload_n C 0 dX5_init_28 rfl rfl ?_
  refine v_bipush (v := 10) C dX5_init_29 (by decide) ?_
  refine w_newI (N := 10) C dX5_init_31 ac_int (by decide) (by decide) (by decide) (by decide) (by decide) (fun ad10 E11 hAE11 hNE11 oNE11 => ?_)
  have aad10_b := hAE11 b (by omega)
  refine v_cast (lv' := [(0, .ref (ad10 b))]) (st' := [.ref (ad10 (b + 4)), .ref (ad10 b)]) (by rw [aad10_b]) (by rw [aad10_b]) ?_
  have hNE11 : E11 (b + 4) = _ := hNE11
  have hE11_b := (oNE11 b (by omega)).trans hE9_b
  rw [rfo_new hAE11 (by first | decide | (simp; done) | (simp; omega))] at hE11_b
  have hE11_b1 := (oNE11 (b + 1) (by omega)).trans hE9_b1
  have hE11_b2 := (oNE11 (b + 2) (by omega)).trans hE9_b2
  have hE11_b3 := (oNE11 (b + 3) (by omega)).trans hE9_b3
  refine v_putr C hin b dX5_init_33 fX5_21 (by omega) hE11_b rfl rfl rfl rfl rfl (fun E12 hE12_b oE12 => ?_)
  rw [rfo_set (by first | decide | exact Nat.le_of_ble_eq_true rfl)] at hE12_b
  have hE12_b1 := (oE12 (b + 1) (by omega)).trans hE11_b1
  have hE12_b2 := (oE12 (b + 2) (by omega)).trans hE11_b2
  have hE12_b3 := (oE12 (b + 3) (by omega)).trans hE11_b3
  have hE12_b4 := (oE12 (b + 4) (by omega)).trans hNE11
  have hE12_b : E12 b = ob 5 (rfo ad10 [some (b + 1), some (b + 2), some (b + 3), some (b + 4), none, none, none, none, none]) ip0 := hE12_b
  refine v_aload_n C 0 dX5_init_36 rfl rfl ?_
  refine v_bipush (v := 8) C dX5_init_37 (by decide) ?_
  refine w_newI (N := 8) C dX5_init_39 ac_int (by decide) (by decide) (by decide) (by decide) (by decide) (fun ad13 E14 hAE14 hNE14 oNE14 => ?_)
  have aad13_b := hAE14 b (by omega)
  refine v_cast (lv' := [(0, .ref (ad13 b))]) (st' := [.ref (ad13 (b + 5)), .ref (ad13 b)]) (by rw [aad13_b]) (by rw [aad13_b]) ?_
  have hNE14 : E14 (b + 5) = _ := hNE14
  have hE14_b := (oNE14 b (by omega)).trans hE12_b
  rw [rfo_new hAE14 (by first | decide | (simp; done) | (simp; omega))] at hE14_b
  have hE14_b1 := (oNE14 (b + 1) (by omega)).trans hE12_b1
  have hE14_b2 := (oNE14 (b + 2) (by omega)).trans hE12_b2
  have hE14_b3 := (oNE14 (b + 3) (by omega)).trans hE12_b3
  have hE14_b4 := (oNE14 (b + 4) (by omega)).trans hE12_b4
  refine v_putr C hin b dX5_init_41 fX5_24 (by omega) hE14_b rfl rfl rfl rfl rfl (fun E15 hE15_b oE15 => ?_)
  rw [rfo_set (by first | decide | exact Nat.le_of_ble_eq_true rfl)] at hE15_b
  have hE15_b1 := (oE15 (b + 1) (by omega)).trans hE14_b1
  have hE15_b2 := (oE15 (b + 2) (by omega)).trans hE14_b2
  have hE15_b3 := (oE15 (b + 3) (by omega)).trans hE14_b3
  have hE15_b4 := (oE15 (b + 4) (by omega)).trans hE14_b4
  have hE15_b5 := (oE15 (b + 5) (by omega)).trans hNE14
  have hE15_b : E15 b = ob 5 (rfo ad13 [some (b + 1), some (b + 2), some (b + 3), some (b + 4), some (b + 5), none, none, none, none]) ip0 := hE15_b
  exact v_nret C dX5_init_44 rfl rfl rfl rfl ⟨(fun j hj => ((hAE14 j (by omega)).trans ((hAE11 j (by omega)).trans ((hAE8 j (by omega)).trans ((hAE5 j (by omega)).trans (hAE2 j (by omega))))))), (fun j hj hne => ((oE15 j hne).trans ((oNE14 j (by omega)).trans ((oE12 j hne).trans ((oNE11 j (by omega)).trans ((oE9 j hne).trans ((oNE8 j (by omega)).trans ((oE6 j hne).trans ((oNE5 j (by omega)).trans ((oE3 j hne).trans (oNE2 j (by omega)))))))))))), hE15_b, hE15_b1, hE15_b2, hE15_b3, hE15_b4, hE15_b5⟩

set_option maxRecDepth 20000 in
theorem k_Zones (l : Launch) (G : Gl) (ad : Nat → Nat) (E : Nat → va_E) (hEb : E 6 = ob 7 (rfo ad [none, none]) ip0)  : CtN l G yX7_init cX7_init 1 1 16 1 5 (7) (8) ad E [.ref (ad 6)] (fun u => (∀ j, j < 7 → u.1 j = ad j) ∧ (∀ j, j < 7 → j ≠ 6 → u.2 j = E j) ∧ u.2 6 = ob 7 (rfo u.1 [some 7, none]) ip0 ∧ u.2 7 = aQ G 3 5 (fun _ => none)) := by
  refine CtN.of (by decide) (Nat.le_of_ble_eq_true rfl) (fun X A hin C => ?_)
  refine v_sub (lv' := [(0, .ref (ad 6))]) [0] rfl ?_
  refine v_aload_n C 0 dX7_init_0 rfl rfl ?_
  refine v_obj C dX7_init_1 lX7_3 oi_inst oi_code ⟨by decide, by decide⟩ ?_
  refine v_aload_n C 0 dX7_init_4 rfl rfl ?_
  refine v_iconst (v := 5) C dX7_init_5 (by decide) ?_
  refine w_newAZ (N := 5) C dX7_init_6 qX7_9 (by decide) (by decide) (by decide) (by decide) (by decide) (fun ad1 E2 hAE2 hNE2 oNE2 => ?_)
  have aad1_6 := hAE2 6 (by decide)
  refine v_cast (lv' := [(0, .ref (ad1 6))]) (st' := [.ref (ad1 7), .ref (ad1 6)]) (by rw [aad1_6]) (by rw [aad1_6]) ?_
  have hNE2 : E2 7 = _ := hNE2
  have hE2_6 := (oNE2 6 (by decide)).trans hEb
  rw [rfo_new hAE2 (by first | decide | (simp; done) | (simp; omega))] at hE2_6
  refine v_putr C hin 6 dX7_init_9 fX7_11 (by decide) hE2_6 rfl rfl rfl rfl rfl (fun E3 hE3_6 oE3 => ?_)
  rw [rfo_set (by first | decide | exact Nat.le_of_ble_eq_true rfl)] at hE3_6
  have hE3_7 := (oE3 7 (by decide)).trans hNE2
  have hE3_6 : E3 6 = ob 7 (rfo ad1 [some 7, none]) ip0 := hE3_6
  exact v_nret C dX7_init_12 rfl rfl rfl rfl ⟨(fun j hj => (hAE2 j (by omega))), (fun j hj hne => ((oE3 j hne).trans (oNE2 j (by omega)))), hE3_6, hE3_7⟩

set_option maxRecDepth 20000 in
theorem k_Odds (l : Launch) (G : Gl) (ad : Nat → Nat) (E : Nat → va_E) (hEb : E 45 = ob 4 (rfo ad [none, none, none, none, none, none]) ip0)  : CtN l G yX4_init cX4_init 1 1 16 2 57253 (46) (48) ad E [.ref (ad 45)] (fun u => (∀ j, j < 46 → u.1 j = ad j) ∧ (∀ j, j < 46 → j ≠ 45 → u.2 j = E j) ∧ u.2 45 = ob 4 (rfo u.1 [some 46, some 47, none, none, none, none]) ip0 ∧ u.2 46 = aJ G 31251 (fun _ => 0) ∧ u.2 47 = aI G 26002 (fun _ => 0)) := by
  refine CtN.of (by decide) (Nat.le_of_ble_eq_true rfl) (fun X A hin C => ?_)
  refine v_sub (lv' := [(0, .ref (ad 45))]) [0] rfl ?_
  refine v_aload_n C 0 dX4_init_0 rfl rfl ?_
  refine v_obj C dX4_init_1 lX4_3 oi_inst oi_code ⟨by decide, by decide⟩ ?_
  refine v_aload_n C 0 dX4_init_4 rfl rfl ?_
  refine v_sipush (v := 31251) C dX4_init_5 (by decide) ?_
  refine w_newJ (N := 31251) C dX4_init_8 ac_long (by decide) (by decide) (by decide) (by decide) (by decide) (fun ad1 E2 hAE2 hNE2 oNE2 => ?_)
  have aad1_45 := hAE2 45 (by decide)
  refine v_cast (lv' := [(0, .ref (ad1 45))]) (st' := [.ref (ad1 46), .ref (ad1 45)]) (by rw [aad1_45]) (by rw [aad1_45]) ?_
  have hNE2 : E2 46 = _ := hNE2
  have hE2_45 := (oNE2 45 (by decide)).trans hEb
  rw [rfo_new hAE2 (by first | decide | (simp; done) | (simp; omega))] at hE2_45
  refine v_putr C hin 45 dX4_init_10 fX4_9 (by decide) hE2_45 rfl rfl rfl rfl rfl (fun E3 hE3_45 oE3 => ?_)
  rw [rfo_set (by first | decide | exact Nat.le_of_ble_eq_true rfl)] at hE3_45
  have hE3_46 := (oE3 46 (by decide)).trans hNE2
  have hE3_45 : E3 45 = ob 4 (rfo ad1 [some 46, none, none, none, none, none]) ip0 := hE3_45
  refine v_aload_n C 0 dX4_init_13 rfl rfl ?_
  refine v_sipush (v := 26002) C dX4_init_14 (by decide) ?_
  refine w_newI (N := 26002) C dX4_init_17 ac_int (by decide) (by decide) (by decide) (by decide) (by decide) (fun ad4 E5 hAE5 hNE5 oNE5 => ?_)
  have aad4_45 := hAE5 45 (by decide)
  refine v_cast (lv' := [(0, .ref (ad4 45))]) (st' := [.ref (ad4 47), .ref (ad4 45)]) (by rw [aad4_45]) (by rw [aad4_45]) ?_
  have hNE5 : E5 47 = _ := hNE5
  have hE5_45 := (oNE5 45 (by decide)).trans hE3_45
  rw [rfo_new hAE5 (by first | decide | (simp; done) | (simp; omega))] at hE5_45
  have hE5_46 := (oNE5 46 (by decide)).trans hE3_46
  refine v_putr C hin 45 dX4_init_19 fX4_15 (by decide) hE5_45 rfl rfl rfl rfl rfl (fun E6 hE6_45 oE6 => ?_)
  rw [rfo_set (by first | decide | exact Nat.le_of_ble_eq_true rfl)] at hE6_45
  have hE6_46 := (oE6 46 (by decide)).trans hE5_46
  have hE6_47 := (oE6 47 (by decide)).trans hNE5
  have hE6_45 : E6 45 = ob 4 (rfo ad4 [some 46, some 47, none, none, none, none]) ip0 := hE6_45
  exact v_nret C dX4_init_22 rfl rfl rfl rfl ⟨(fun j hj => ((hAE5 j (by omega)).trans (hAE2 j (by omega)))), (fun j hj hne => ((oE6 j hne).trans ((oNE5 j (by omega)).trans ((oE3 j hne).trans (oNE2 j (by omega)))))), hE6_45, hE6_46, hE6_47⟩

set_option maxRecDepth 20000 in
theorem k_Machine (l : Launch) (G : Gl) (ad : Nat → Nat) (E : Nat → va_E) (hEb : E 49 = ob 2 (rfo ad [none, none, none]) ip0)  : CtN l G yX2_init cX2_init 3 1 16 1 8 (50) (51) ad E [.ref (ad 49), .ref (ad 1), .ref (ad 6)] (fun u => (∀ j, j < 50 → u.1 j = ad j) ∧ (∀ j, j < 50 → j ≠ 49 → u.2 j = E j) ∧ u.2 49 = ob 2 (rfo u.1 [some 1, some 6, some 50]) ip0 ∧ u.2 50 = aI G 8 (fun _ => 0)) := by
  refine CtN.of (by decide) (Nat.le_of_ble_eq_true rfl) (fun X A hin C => ?_)
  refine v_sub (lv' := [(0, .ref (ad 49)), (1, .ref (ad 1)), (2, .ref (ad 6))]) [0, 1, 2] rfl ?_
  refine v_aload_n C 0 dX2_init_0 rfl rfl ?_
  refine v_obj C dX2_init_1 lX2_3 oi_inst oi_code ⟨by decide, by decide⟩ ?_
  refine v_aload_n C 0 dX2_init_4 rfl rfl ?_
  refine v_bipush (v := 8) C dX2_init_5 (by decide) ?_
  refine w_newI (N := 8) C dX2_init_7 ac_int (by decide) (by decide) (by decide) (by decide) (by decide) (fun ad1 E2 hAE2 hNE2 oNE2 => ?_)
  have aad1_1 := hAE2 1 (by decide)
  have aad1_49 := hAE2 49 (by decide)
  have aad1_6 := hAE2 6 (by decide)
  refine v_cast (lv' := [(0, .ref (ad1 49)), (1, .ref (ad1 1)), (2, .ref (ad1 6))]) (st' := [.ref (ad1 50), .ref (ad1 49)]) (by rw [aad1_1, aad1_49, aad1_6]) (by rw [aad1_49]) ?_
  have hNE2 : E2 50 = _ := hNE2
  have hE2_49 := (oNE2 49 (by decide)).trans hEb
  rw [rfo_new hAE2 (by first | decide | (simp; done) | (simp; omega))] at hE2_49
  refine v_putr C hin 49 dX2_init_9 fX2_9 (by decide) hE2_49 rfl rfl rfl rfl rfl (fun E3 hE3_49 oE3 => ?_)
  rw [rfo_set (by first | decide | exact Nat.le_of_ble_eq_true rfl)] at hE3_49
  have hE3_50 := (oE3 50 (by decide)).trans hNE2
  have hE3_49 : E3 49 = ob 2 (rfo ad1 [none, none, some 50]) ip0 := hE3_49
  refine v_aload_n C 0 dX2_init_12 rfl rfl ?_
  refine v_aload_n C 1 dX2_init_13 rfl rfl ?_
  refine v_putr C hin 49 dX2_init_14 fX2_15 (by decide) hE3_49 rfl rfl rfl rfl rfl (fun E4 hE4_49 oE4 => ?_)
  rw [rfo_set (by first | decide | exact Nat.le_of_ble_eq_true rfl)] at hE4_49
  have hE4_50 := (oE4 50 (by decide)).trans hE3_50
  have hE4_49 : E4 49 = ob 2 (rfo ad1 [some 1, none, some 50]) ip0 := hE4_49
  refine v_aload_n C 0 dX2_init_17 rfl rfl ?_
  refine v_aload_n C 2 dX2_init_18 rfl rfl ?_
  refine v_putr C hin 49 dX2_init_19 fX2_19 (by decide) hE4_49 rfl rfl rfl rfl rfl (fun E5 hE5_49 oE5 => ?_)
  rw [rfo_set (by first | decide | exact Nat.le_of_ble_eq_true rfl)] at hE5_49
  have hE5_50 := (oE5 50 (by decide)).trans hE4_50
  have hE5_49 : E5 49 = ob 2 (rfo ad1 [some 1, some 6, some 50]) ip0 := hE5_49
  exact v_nret C dX2_init_22 rfl rfl rfl rfl ⟨(fun j hj => (hAE2 j (by omega))), (fun j hj hne => ((oE5 j hne).trans ((oE4 j hne).trans ((oE3 j hne).trans (oNE2 j (by omega)))))), hE5_49, hE5_50⟩

set_option maxRecDepth 20000 in
theorem k_Judge (l : Launch) (G : Gl) (ad : Nat → Nat) (E : Nat → va_E) (hEb : E 48 = ob 1 (rfo ad [none, none, none, none, none, none, none, none]) ip0)  : CtN l G yX1_init cX1_init 4 2 38 2 11 (49) (51) ad E [.ref (ad 48), .ref (ad 1), .ref (ad 6), .ref (ad 45)] (fun u => (∀ j, j < 49 → u.1 j = ad j) ∧ (∀ j, j < 49 → j ≠ 48 → u.2 j = E j) ∧ u.2 48 = ob 1 (rfo u.1 [some 1, some 6, some 49, some 45, none, none, none, none]) ip0 ∧ u.2 49 = ob 2 (rfo u.1 [some 1, some 6, some 50]) ip0 ∧ u.2 50 = aI G 8 (fun _ => 0)) := by
  refine CtN.of (by decide) (Nat.le_of_ble_eq_true rfl) (fun X A hin C => ?_)
  refine v_sub (lv' := [(0, .ref (ad 48)), (1, .ref (ad 1)), (2, .ref (ad 6)), (3, .ref (ad 45))]) [0, 1, 2, 3] rfl ?_
  refine v_aload_n C 0 dX1_init_0 rfl rfl ?_
  refine v_obj C dX1_init_1 lX1_3 oi_inst oi_code ⟨by decide, by decide⟩ ?_
  refine v_aload_n C 0 dX1_init_4 rfl rfl ?_
  refine v_aload_n C 1 dX1_init_5 rfl rfl ?_
  refine v_putr C hin 48 dX1_init_6 fX1_9 (by decide) hEb rfl rfl rfl rfl rfl (fun E1 hE1_48 oE1 => ?_)
  rw [rfo_set (by first | decide | exact Nat.le_of_ble_eq_true rfl)] at hE1_48
  have hE1_48 : E1 48 = ob 1 (rfo ad [some 1, none, none, none, none, none, none, none]) ip0 := hE1_48
  refine v_aload_n C 0 dX1_init_9 rfl rfl ?_
  refine v_aload_n C 2 dX1_init_10 rfl rfl ?_
  refine v_putr C hin 48 dX1_init_11 fX1_15 (by decide) hE1_48 rfl rfl rfl rfl rfl (fun E2 hE2_48 oE2 => ?_)
  rw [rfo_set (by first | decide | exact Nat.le_of_ble_eq_true rfl)] at hE2_48
  have hE2_48 : E2 48 = ob 1 (rfo ad [some 1, some 6, none, none, none, none, none, none]) ip0 := hE2_48
  refine v_aload_n C 0 dX1_init_14 rfl rfl ?_
  refine v_aload_n C 3 dX1_init_15 rfl rfl ?_
  refine v_putr C hin 48 dX1_init_16 fX1_19 (by decide) hE2_48 rfl rfl rfl rfl rfl (fun E3 hE3_48 oE3 => ?_)
  rw [rfo_set (by first | decide | exact Nat.le_of_ble_eq_true rfl)] at hE3_48
  have hE3_48 : E3 48 = ob 1 (rfo ad [some 1, some 6, none, some 45, none, none, none, none]) ip0 := hE3_48
  refine v_aload_n C 0 dX1_init_19 rfl rfl ?_
  refine w_new (ci := 2) C dX1_init_20 (by decide) qX1_23 zX2 gX2 (fresh_fs (by decide)) (by decide) (by decide) (fun ad4 E5 hAE5 hNE5 oNE5 => ?_)
  have aad4_1 := hAE5 1 (by decide)
  have aad4_45 := hAE5 45 (by decide)
  have aad4_48 := hAE5 48 (by decide)
  have aad4_6 := hAE5 6 (by decide)
  refine v_cast (lv' := [(0, .ref (ad4 48)), (1, .ref (ad4 1)), (2, .ref (ad4 6)), (3, .ref (ad4 45))]) (st' := [.ref (ad4 49), .ref (ad4 48)]) (by rw [aad4_1, aad4_45, aad4_48, aad4_6]) (by rw [aad4_48]) ?_
  rw [← rfo_none (ad := ad4) (k := 3)] at hNE5
  have hNE5 : E5 49 = ob 2 (rfo ad4 [none, none, none]) ip0 := hNE5
  have hE5_48 := (oNE5 48 (by decide)).trans hE3_48
  rw [rfo_new hAE5 (by first | decide | (simp; done) | (simp; omega))] at hE5_48
  refine v_dup C dX1_init_23 rfl ?_
  refine v_aload_n C 1 dX1_init_24 rfl rfl ?_
  refine v_aload_n C 2 dX1_init_25 rfl rfl ?_
  refine v_cI C 49 dX1_init_26 lX1_25 mX2_init (k_Machine l G ad4 E5 hNE5) ⟨by decide, by decide⟩ rfl (Nat.le_of_ble_eq_true rfl) ⟨by decide, by decide⟩ (fun ad6 E7 hq8 => ?_)
  obtain ⟨hA9, hO9, hc9_49, hc9_50⟩ := hq8
  dsimp only at hA9 hO9 hc9_49 hc9_50
  have aad6_1 := hA9 1 (by decide)
  have aad6_45 := hA9 45 (by decide)
  have aad6_48 := hA9 48 (by decide)
  have aad6_49 := hA9 49 (by decide)
  have aad6_6 := hA9 6 (by decide)
  refine v_cast (lv' := [(0, .ref (ad6 48)), (1, .ref (ad6 1)), (2, .ref (ad6 6)), (3, .ref (ad6 45))]) (st' := [.ref (ad6 49), .ref (ad6 48)]) (by rw [aad6_1, aad6_45, aad6_48, aad6_6]) (by rw [aad6_48, aad6_49]) ?_
  have hE7_48 := (hO9 48 (by decide) (by decide)).trans hE5_48
  rw [rfo_new hA9 (by first | decide | (simp; done) | (simp; omega))] at hE7_48
  refine v_putr C hin 48 dX1_init_29 fX1_28 (by decide) hE7_48 rfl rfl rfl rfl rfl (fun E10 hE10_48 oE10 => ?_)
  rw [rfo_set (by first | decide | exact Nat.le_of_ble_eq_true rfl)] at hE10_48
  have hE10_49 := (oE10 49 (by decide)).trans hc9_49
  have hE10_50 := (oE10 50 (by decide)).trans hc9_50
  have hE10_48 : E10 48 = ob 1 (rfo ad6 [some 1, some 6, some 49, some 45, none, none, none, none]) ip0 := hE10_48
  exact v_nret C dX1_init_32 rfl rfl rfl rfl ⟨(fun j hj => ((hA9 j (by omega)).trans (hAE5 j (by omega)))), (fun j hj hne => ((oE10 j hne).trans ((hO9 j (by omega) (by omega)).trans ((oNE5 j (by omega)).trans ((oE3 j hne).trans ((oE2 j hne).trans (oE1 j hne))))))), hE10_48, hE10_49, hE10_50⟩

set_option maxRecDepth 20000 in
theorem k_Mender (l : Launch) (G : Gl) (ad : Nat → Nat) (E : Nat → va_E) (hEb : E 51 = ob 3 (rfo ad [none, none, none, none, none, none, none, none, none]) ip0)  : CtN l G yX3_init cX3_init 3 2 36 16 314 (52) (68) ad E [.ref (ad 51), .ref (ad 6), .ref (ad 48)] (fun u => (∀ j, j < 52 → u.1 j = ad j) ∧ (∀ j, j < 52 → j ≠ 51 → u.2 j = E j) ∧ u.2 51 = ob 3 (rfo u.1 [some 6, some 48, some 52, some 58, some 64, some 65, some 66, some 67, none]) ip0 ∧ u.2 52 = ob 5 (rfo u.1 [some 53, some 54, some 55, some 56, some 57, none, none, none, none]) ip0 ∧ u.2 53 = aI G 10 (fun _ => 0) ∧ u.2 54 = aI G 10 (fun _ => 0) ∧ u.2 55 = aI G 10 (fun _ => 0) ∧ u.2 56 = aI G 10 (fun _ => 0) ∧ u.2 57 = aI G 8 (fun _ => 0) ∧ u.2 58 = ob 5 (rfo u.1 [some 59, some 60, some 61, some 62, some 63, none, none, none, none]) ip0 ∧ u.2 59 = aI G 10 (fun _ => 0) ∧ u.2 60 = aI G 10 (fun _ => 0) ∧ u.2 61 = aI G 10 (fun _ => 0) ∧ u.2 62 = aI G 10 (fun _ => 0) ∧ u.2 63 = aI G 8 (fun _ => 0) ∧ u.2 64 = aI G 50 (fun _ => 0) ∧ u.2 65 = aI G 50 (fun _ => 0) ∧ u.2 66 = aI G 50 (fun _ => 0) ∧ u.2 67 = aI G 50 (fun _ => 0)) := by
  refine CtN.of (by decide) (Nat.le_of_ble_eq_true rfl) (fun X A hin C => ?_)
  refine v_sub (lv' := [(0, .ref (ad 51)), (1, .ref (ad 6)), (2, .ref (ad 48))]) [0, 1, 2] rfl ?_
  refine v_aload_n C 0 dX3_init_0 rfl rfl ?_
  refine v_obj C dX3_init_1 lX3_3 oi_inst oi_code ⟨by decide, by decide⟩ ?_
  refine v_aload_n C 0 dX3_init_4 rfl rfl ?_
  refine w_new (ci := 5) C dX3_init_5 (by decide) qX3_9 zX5 gX5 (fresh_fs (by decide)) (by decide) (by decide) (fun ad1 E2 hAE2 hNE2 oNE2 => ?_)
  have aad1_48 := hAE2 48 (by decide)
  have aad1_51 := hAE2 51 (by decide)
  have aad1_6 := hAE2 6 (by decide)
  refine v_cast (lv' := [(0, .ref (ad1 51)), (1, .ref (ad1 6)), (2, .ref (ad1 48))]) (st' := [.ref (ad1 52), .ref (ad1 51)]) (by rw [aad1_48, aad1_51, aad1_6]) (by rw [aad1_51]) ?_
  rw [← rfo_none (ad := ad1) (k := 9)] at hNE2
  have hNE2 : E2 52 = ob 5 (rfo ad1 [none, none, none, none, none, none, none, none, none]) ip0 := hNE2
  have hE2_51 := (oNE2 51 (by decide)).trans hEb
  rw [rfo_new hAE2 (by first | decide | (simp; done) | (simp; omega))] at hE2_51
  refine v_dup C dX3_init_8 rfl ?_
  refine v_cIN C 52 dX3_init_9 (List.mem_of_getElem? (i := 4) rfl) mX5_init (k_Program l G ad1 E2 52 hNE2) ⟨by decide, by decide⟩ rfl (Nat.le_of_ble_eq_true rfl) ⟨by decide, by decide⟩ (fun ad3 E4 hq5 => ?_)
  obtain ⟨hA6, hO6, hc6_52, hc6_53, hc6_54, hc6_55, hc6_56, hc6_57⟩ := hq5
  dsimp only at hA6 hO6 hc6_52 hc6_53 hc6_54 hc6_55 hc6_56 hc6_57
  have aad3_48 := hA6 48 (by decide)
  have aad3_51 := hA6 51 (by decide)
  have aad3_52 := hA6 52 (by decide)
  have aad3_6 := hA6 6 (by decide)
  refine v_cast (lv' := [(0, .ref (ad3 51)), (1, .ref (ad3 6)), (2, .ref (ad3 48))]) (st' := [.ref (ad3 52), .ref (ad3 51)]) (by rw [aad3_48, aad3_51, aad3_6]) (by rw [aad3_51, aad3_52]) ?_
  have hE4_51 := (hO6 51 (by decide) (by decide)).trans hE2_51
  rw [rfo_new hA6 (by first | decide | (simp; done) | (simp; omega))] at hE4_51
  refine v_putr C hin 51 dX3_init_12 fX3_12 (by decide) hE4_51 rfl rfl rfl rfl rfl (fun E7 hE7_51 oE7 => ?_)
  rw [rfo_set (by first | decide | exact Nat.le_of_ble_eq_true rfl)] at hE7_51
  have hE7_52 := (oE7 52 (by decide)).trans hc6_52
  have hE7_53 := (oE7 53 (by decide)).trans hc6_53
  have hE7_54 := (oE7 54 (by decide)).trans hc6_54
  have hE7_55 := (oE7 55 (by decide)).trans hc6_55
  have hE7_56 := (oE7 56 (by decide)).trans hc6_56
  have hE7_57 := (oE7 57 (by decide)).trans hc6_57
  have hE7_51 : E7 51 = ob 3 (rfo ad3 [none, none, some 52, none, none, none, none, none, none]) ip0 := hE7_51
  refine v_aload_n C 0 dX3_init_15 rfl rfl ?_
  refine w_new (ci := 5) C dX3_init_16 (by decide) qX3_9 zX5 gX5 (fresh_fs (by decide)) (by decide) (by decide) (fun ad8 E9 hAE9 hNE9 oNE9 => ?_)
  have aad8_48 := hAE9 48 (by decide)
  have aad8_51 := hAE9 51 (by decide)
  have aad8_6 := hAE9 6 (by decide)
  refine v_cast (lv' := [(0, .ref (ad8 51)), (1, .ref (ad8 6)), (2, .ref (ad8 48))]) (st' := [.ref (ad8 58), .ref (ad8 51)]) (by rw [aad8_48, aad8_51, aad8_6]) (by rw [aad8_51]) ?_
  rw [← rfo_none (ad := ad8) (k := 9)] at hNE9
  have hNE9 : E9 58 = ob 5 (rfo ad8 [none, none, none, none, none, none, none, none, none]) ip0 := hNE9
  have hE9_51 := (oNE9 51 (by decide)).trans hE7_51
  rw [rfo_new hAE9 (by first | decide | (simp; done) | (simp; omega))] at hE9_51
  have hE9_52 := (oNE9 52 (by decide)).trans hE7_52
  rw [rfo_new hAE9 (by first | decide | (simp; done) | (simp; omega))] at hE9_52
  have hE9_53 := (oNE9 53 (by decide)).trans hE7_53
  have hE9_54 := (oNE9 54 (by decide)).trans hE7_54
  have hE9_55 := (oNE9 55 (by decide)).trans hE7_55
  have hE9_56 := (oNE9 56 (by decide)).trans hE7_56
  have hE9_57 := (oNE9 57 (by decide)).trans hE7_57
  refine v_dup C dX3_init_19 rfl ?_
  refine v_cIN C 58 dX3_init_20 (List.mem_of_getElem? (i := 4) rfl) mX5_init (k_Program l G ad8 E9 58 hNE9) ⟨by decide, by decide⟩ rfl (Nat.le_of_ble_eq_true rfl) ⟨by decide, by decide⟩ (fun ad10 E11 hq12 => ?_)
  obtain ⟨hA13, hO13, hc13_58, hc13_59, hc13_60, hc13_61, hc13_62, hc13_63⟩ := hq12
  dsimp only at hA13 hO13 hc13_58 hc13_59 hc13_60 hc13_61 hc13_62 hc13_63
  have aad10_48 := hA13 48 (by decide)
  have aad10_51 := hA13 51 (by decide)
  have aad10_58 := hA13 58 (by decide)
  have aad10_6 := hA13 6 (by decide)
  refine v_cast (lv' := [(0, .ref (ad10 51)), (1, .ref (ad10 6)), (2, .ref (ad10 48))]) (st' := [.ref (ad10 58), .ref (ad10 51)]) (by rw [aad10_48, aad10_51, aad10_6]) (by rw [aad10_51, aad10_58]) ?_
  have hE11_51 := (hO13 51 (by decide) (by decide)).trans hE9_51
  rw [rfo_new hA13 (by first | decide | (simp; done) | (simp; omega))] at hE11_51
  have hE11_52 := (hO13 52 (by decide) (by decide)).trans hE9_52
  rw [rfo_new hA13 (by first | decide | (simp; done) | (simp; omega))] at hE11_52
  have hE11_53 := (hO13 53 (by decide) (by decide)).trans hE9_53
  have hE11_54 := (hO13 54 (by decide) (by decide)).trans hE9_54
  have hE11_55 := (hO13 55 (by decide) (by decide)).trans hE9_55
  have hE11_56 := (hO13 56 (by decide) (by decide)).trans hE9_56
  have hE11_57 := (hO13 57 (by decide) (by decide)).trans hE9_57
  refine v_putr C hin 51 dX3_init_23 fX3_18 (by decide) hE11_51 rfl rfl rfl rfl rfl (fun E14 hE14_51 oE14 => ?_)
  rw [rfo_set (by first | decide | exact Nat.le_of_ble_eq_true rfl)] at hE14_51
  have hE14_52 := (oE14 52 (by decide)).trans hE11_52
  have hE14_53 := (oE14 53 (by decide)).trans hE11_53
  have hE14_54 := (oE14 54 (by decide)).trans hE11_54
  have hE14_55 := (oE14 55 (by decide)).trans hE11_55
  have hE14_56 := (oE14 56 (by decide)).trans hE11_56
  have hE14_57 := (oE14 57 (by decide)).trans hE11_57
  have hE14_58 := (oE14 58 (by decide)).trans hc13_58
  have hE14_59 := (oE14 59 (by decide)).trans hc13_59
  have hE14_60 := (oE14 60 (by decide)).trans hc13_60
  have hE14_61 := (oE14 61 (by decide)).trans hc13_61
  have hE14_62 := (oE14 62 (by decide)).trans hc13_62
  have hE14_63 := (oE14 63 (by decide)).trans hc13_63
  have hE14_51 : E14 51 = ob 3 (rfo ad10 [none, none, some 52, some 58, none, none, none, none, none]) ip0 := hE14_51
  refine v_aload_n C 0 dX3_init_26 rfl rfl ?_
  refine v_bipush (v := 50) C dX3_init_27 (by decide) ?_
  refine w_newI (N := 50) C dX3_init_29 ac_int (by decide) (by decide) (by decide) (by decide) (by decide) (fun ad15 E16 hAE16 hNE16 oNE16 => ?_)
  have aad15_48 := hAE16 48 (by decide)
  have aad15_51 := hAE16 51 (by decide)
  have aad15_6 := hAE16 6 (by decide)
  refine v_cast (lv' := [(0, .ref (ad15 51)), (1, .ref (ad15 6)), (2, .ref (ad15 48))]) (st' := [.ref (ad15 64), .ref (ad15 51)]) (by rw [aad15_48, aad15_51, aad15_6]) (by rw [aad15_51]) ?_
  have hNE16 : E16 64 = _ := hNE16
  have hE16_51 := (oNE16 51 (by decide)).trans hE14_51
  rw [rfo_new hAE16 (by first | decide | (simp; done) | (simp; omega))] at hE16_51
  have hE16_52 := (oNE16 52 (by decide)).trans hE14_52
  rw [rfo_new hAE16 (by first | decide | (simp; done) | (simp; omega))] at hE16_52
  have hE16_53 := (oNE16 53 (by decide)).trans hE14_53
  have hE16_54 := (oNE16 54 (by decide)).trans hE14_54
  have hE16_55 := (oNE16 55 (by decide)).trans hE14_55
  have hE16_56 := (oNE16 56 (by decide)).trans hE14_56
  have hE16_57 := (oNE16 57 (by decide)).trans hE14_57
  have hE16_58 := (oNE16 58 (by decide)).trans hE14_58
  rw [rfo_new hAE16 (by first | decide | (simp; done) | (simp; omega))] at hE16_58
  have hE16_59 := (oNE16 59 (by decide)).trans hE14_59
  have hE16_60 := (oNE16 60 (by decide)).trans hE14_60
  have hE16_61 := (oNE16 61 (by decide)).trans hE14_61
  have hE16_62 := (oNE16 62 (by decide)).trans hE14_62
  have hE16_63 := (oNE16 63 (by decide)).trans hE14_63
  refine v_putr C hin 51 dX3_init_31 fX3_21 (by decide) hE16_51 rfl rfl rfl rfl rfl (fun E17 hE17_51 oE17 => ?_)
  rw [rfo_set (by first | decide | exact Nat.le_of_ble_eq_true rfl)] at hE17_51
  have hE17_52 := (oE17 52 (by decide)).trans hE16_52
  have hE17_53 := (oE17 53 (by decide)).trans hE16_53
  have hE17_54 := (oE17 54 (by decide)).trans hE16_54
  have hE17_55 := (oE17 55 (by decide)).trans hE16_55
  have hE17_56 := (oE17 56 (by decide)).trans hE16_56
  have hE17_57 := (oE17 57 (by decide)).trans hE16_57
  have hE17_58 := (oE17 58 (by decide)).trans hE16_58
  have hE17_59 := (oE17 59 (by decide)).trans hE16_59
  have hE17_60 := (oE17 60 (by decide)).trans hE16_60
  have hE17_61 := (oE17 61 (by decide)).trans hE16_61
  have hE17_62 := (oE17 62 (by decide)).trans hE16_62
  have hE17_63 := (oE17 63 (by decide)).trans hE16_63
  have hE17_64 := (oE17 64 (by decide)).trans hNE16
  have hE17_51 : E17 51 = ob 3 (rfo ad15 [none, none, some 52, some 58, some 64, none, none, none, none]) ip0 := hE17_51
  refine v_aload_n C 0 dX3_init_34 rfl rfl ?_
  refine v_bipush (v := 50) C dX3_init_35 (by decide) ?_
  refine w_newI (N := 50) C dX3_init_37 ac_int (by decide) (by decide) (by decide) (by decide) (by decide) (fun ad18 E19 hAE19 hNE19 oNE19 => ?_)
  have aad18_48 := hAE19 48 (by decide)
  have aad18_51 := hAE19 51 (by decide)
  have aad18_6 := hAE19 6 (by decide)
  refine v_cast (lv' := [(0, .ref (ad18 51)), (1, .ref (ad18 6)), (2, .ref (ad18 48))]) (st' := [.ref (ad18 65), .ref (ad18 51)]) (by rw [aad18_48, aad18_51, aad18_6]) (by rw [aad18_51]) ?_
  have hNE19 : E19 65 = _ := hNE19
  have hE19_51 := (oNE19 51 (by decide)).trans hE17_51
  rw [rfo_new hAE19 (by first | decide | (simp; done) | (simp; omega))] at hE19_51
  have hE19_52 := (oNE19 52 (by decide)).trans hE17_52
  rw [rfo_new hAE19 (by first | decide | (simp; done) | (simp; omega))] at hE19_52
  have hE19_53 := (oNE19 53 (by decide)).trans hE17_53
  have hE19_54 := (oNE19 54 (by decide)).trans hE17_54
  have hE19_55 := (oNE19 55 (by decide)).trans hE17_55
  have hE19_56 := (oNE19 56 (by decide)).trans hE17_56
  have hE19_57 := (oNE19 57 (by decide)).trans hE17_57
  have hE19_58 := (oNE19 58 (by decide)).trans hE17_58
  rw [rfo_new hAE19 (by first | decide | (simp; done) | (simp; omega))] at hE19_58
  have hE19_59 := (oNE19 59 (by decide)).trans hE17_59
  have hE19_60 := (oNE19 60 (by decide)).trans hE17_60
  have hE19_61 := (oNE19 61 (by decide)).trans hE17_61
  have hE19_62 := (oNE19 62 (by decide)).trans hE17_62
  have hE19_63 := (oNE19 63 (by decide)).trans hE17_63
  have hE19_64 := (oNE19 64 (by decide)).trans hE17_64
  refine v_putr C hin 51 dX3_init_39 fX3_25 (by decide) hE19_51 rfl rfl rfl rfl rfl (fun E20 hE20_51 oE20 => ?_)
  rw [rfo_set (by first | decide | exact Nat.le_of_ble_eq_true rfl)] at hE20_51
  have hE20_52 := (oE20 52 (by decide)).trans hE19_52
  have hE20_53 := (oE20 53 (by decide)).trans hE19_53
  have hE20_54 := (oE20 54 (by decide)).trans hE19_54
  have hE20_55 := (oE20 55 (by decide)).trans hE19_55
  have hE20_56 := (oE20 56 (by decide)).trans hE19_56
  have hE20_57 := (oE20 57 (by decide)).trans hE19_57
  have hE20_58 := (oE20 58 (by decide)).trans hE19_58
  have hE20_59 := (oE20 59 (by decide)).trans hE19_59
  have hE20_60 := (oE20 60 (by decide)).trans hE19_60
  have hE20_61 := (oE20 61 (by decide)).trans hE19_61
  have hE20_62 := (oE20 62 (by decide)).trans hE19_62
  have hE20_63 := (oE20 63 (by decide)).trans hE19_63
  have hE20_64 := (oE20 64 (by decide)).trans hE19_64
  have hE20_65 := (oE20 65 (by decide)).trans hNE19
  have hE20_51 : E20 51 = ob 3 (rfo ad18 [none, none, some 52, some 58, some 64, some 65, none, none, none]) ip0 := hE20_51
  refine v_aload_n C 0 dX3_init_42 rfl rfl ?_
  refine v_bipush (v := 50) C dX3_init_43 (by decide) ?_
  refine w_newI (N := 50) C dX3_init_45 ac_int (by decide) (by decide) (by decide) (by decide) (by decide) (fun ad21 E22 hAE22 hNE22 oNE22 => ?_)
  have aad21_48 := hAE22 48 (by decide)
  have aad21_51 := hAE22 51 (by decide)
  have aad21_6 := hAE22 6 (by decide)
  refine v_cast (lv' := [(0, .ref (ad21 51)), (1, .ref (ad21 6)), (2, .ref (ad21 48))]) (st' := [.ref (ad21 66), .ref (ad21 51)]) (by rw [aad21_48, aad21_51, aad21_6]) (by rw [aad21_51]) ?_
  have hNE22 : E22 66 = _ := hNE22
  have hE22_51 := (oNE22 51 (by decide)).trans hE20_51
  rw [rfo_new hAE22 (by first | decide | (simp; done) | (simp; omega))] at hE22_51
  have hE22_52 := (oNE22 52 (by decide)).trans hE20_52
  rw [rfo_new hAE22 (by first | decide | (simp; done) | (simp; omega))] at hE22_52
  have hE22_53 := (oNE22 53 (by decide)).trans hE20_53
  have hE22_54 := (oNE22 54 (by decide)).trans hE20_54
  have hE22_55 := (oNE22 55 (by decide)).trans hE20_55
  have hE22_56 := (oNE22 56 (by decide)).trans hE20_56
  have hE22_57 := (oNE22 57 (by decide)).trans hE20_57
  have hE22_58 := (oNE22 58 (by decide)).trans hE20_58
  rw [rfo_new hAE22 (by first | decide | (simp; done) | (simp; omega))] at hE22_58
  have hE22_59 := (oNE22 59 (by decide)).trans hE20_59
  have hE22_60 := (oNE22 60 (by decide)).trans hE20_60
  have hE22_61 := (oNE22 61 (by decide)).trans hE20_61
  have hE22_62 := (oNE22 62 (by decide)).trans hE20_62
  have hE22_63 := (oNE22 63 (by decide)).trans hE20_63
  have hE22_64 := (oNE22 64 (by decide)).trans hE20_64
  have hE22_65 := (oNE22 65 (by decide)).trans hE20_65
  refine v_putr C hin 51 dX3_init_47 fX3_28 (by decide) hE22_51 rfl rfl rfl rfl rfl (fun E23 hE23_51 oE23 => ?_)
  rw [rfo_set (by first | decide | exact Nat.le_of_ble_eq_true rfl)] at hE23_51
  have hE23_52 := (oE23 52 (by decide)).trans hE22_52
  have hE23_53 := (oE23 53 (by decide)).trans hE22_53
  have hE23_54 := (oE23 54 (by decide)).trans hE22_54
  have hE23_55 := (oE23 55 (by decide)).trans hE22_55
  have hE23_56 := (oE23 56 (by decide)).trans hE22_56
  have hE23_57 := (oE23 57 (by decide)).trans hE22_57
  have hE23_58 := (oE23 58 (by decide)).trans hE22_58
  have hE23_59 := (oE23 59 (by decide)).trans hE22_59
  have hE23_60 := (oE23 60 (by decide)).trans hE22_60
  have hE23_61 := (oE23 61 (by decide)).trans hE22_61
  have hE23_62 := (oE23 62 (by decide)).trans hE22_62
  have hE23_63 := (oE23 63 (by decide)).trans hE22_63
  have hE23_64 := (oE23 64 (by decide)).trans hE22_64
  have hE23_65 := (oE23 65 (by decide)).trans hE22_65
  have hE23_66 := (oE23 66 (by decide)).trans hNE22
  have hE23_51 : E23 51 = ob 3 (rfo ad21 [none, none, some 52, some 58, some 64, some 65, some 66, none, none]) ip0 := hE23_51
  refine v_aload_n C 0 dX3_init_50 rfl rfl ?_
  refine v_bipush (v := 50) C dX3_init_51 (by decide) ?_
  refine w_newI (N := 50) C dX3_init_53 ac_int (by decide) (by decide) (by decide) (by decide) (by decide) (fun ad24 E25 hAE25 hNE25 oNE25 => ?_)
  have aad24_48 := hAE25 48 (by decide)
  have aad24_51 := hAE25 51 (by decide)
  have aad24_6 := hAE25 6 (by decide)
  refine v_cast (lv' := [(0, .ref (ad24 51)), (1, .ref (ad24 6)), (2, .ref (ad24 48))]) (st' := [.ref (ad24 67), .ref (ad24 51)]) (by rw [aad24_48, aad24_51, aad24_6]) (by rw [aad24_51]) ?_
  have hNE25 : E25 67 = _ := hNE25
  have hE25_51 := (oNE25 51 (by decide)).trans hE23_51
  rw [rfo_new hAE25 (by first | decide | (simp; done) | (simp; omega))] at hE25_51
  have hE25_52 := (oNE25 52 (by decide)).trans hE23_52
  rw [rfo_new hAE25 (by first | decide | (simp; done) | (simp; omega))] at hE25_52
  have hE25_53 := (oNE25 53 (by decide)).trans hE23_53
  have hE25_54 := (oNE25 54 (by decide)).trans hE23_54
  have hE25_55 := (oNE25 55 (by decide)).trans hE23_55
  have hE25_56 := (oNE25 56 (by decide)).trans hE23_56
  have hE25_57 := (oNE25 57 (by decide)).trans hE23_57
  have hE25_58 := (oNE25 58 (by decide)).trans hE23_58
  rw [rfo_new hAE25 (by first | decide | (simp; done) | (simp; omega))] at hE25_58
  have hE25_59 := (oNE25 59 (by decide)).trans hE23_59
  have hE25_60 := (oNE25 60 (by decide)).trans hE23_60
  have hE25_61 := (oNE25 61 (by decide)).trans hE23_61
  have hE25_62 := (oNE25 62 (by decide)).trans hE23_62
  have hE25_63 := (oNE25 63 (by decide)).trans hE23_63
  have hE25_64 := (oNE25 64 (by decide)).trans hE23_64
  have hE25_65 := (oNE25 65 (by decide)).trans hE23_65
  have hE25_66 := (oNE25 66 (by decide)).trans hE23_66
  refine v_putr C hin 51 dX3_init_55 fX3_31 (by decide) hE25_51 rfl rfl rfl rfl rfl (fun E26 hE26_51 oE26 => ?_)
  rw [rfo_set (by first | decide | exact Nat.le_of_ble_eq_true rfl)] at hE26_51
  have hE26_52 := (oE26 52 (by decide)).trans hE25_52
  have hE26_53 := (oE26 53 (by decide)).trans hE25_53
  have hE26_54 := (oE26 54 (by decide)).trans hE25_54
  have hE26_55 := (oE26 55 (by decide)).trans hE25_55
  have hE26_56 := (oE26 56 (by decide)).trans hE25_56
  have hE26_57 := (oE26 57 (by decide)).trans hE25_57
  have hE26_58 := (oE26 58 (by decide)).trans hE25_58
  have hE26_59 := (oE26 59 (by decide)).trans hE25_59
  have hE26_60 := (oE26 60 (by decide)).trans hE25_60
  have hE26_61 := (oE26 61 (by decide)).trans hE25_61
  have hE26_62 := (oE26 62 (by decide)).trans hE25_62
  have hE26_63 := (oE26 63 (by decide)).trans hE25_63
  have hE26_64 := (oE26 64 (by decide)).trans hE25_64
  have hE26_65 := (oE26 65 (by decide)).trans hE25_65
  have hE26_66 := (oE26 66 (by decide)).trans hE25_66
  have hE26_67 := (oE26 67 (by decide)).trans hNE25
  have hE26_51 : E26 51 = ob 3 (rfo ad24 [none, none, some 52, some 58, some 64, some 65, some 66, some 67, none]) ip0 := hE26_51
  refine v_aload_n C 0 dX3_init_58 rfl rfl ?_
  refine v_aload_n C 1 dX3_init_59 rfl rfl ?_
  refine v_putr C hin 51 dX3_init_60 fX3_34 (by decide) hE26_51 rfl rfl rfl rfl rfl (fun E27 hE27_51 oE27 => ?_)
  rw [rfo_set (by first | decide | exact Nat.le_of_ble_eq_true rfl)] at hE27_51
  have hE27_52 := (oE27 52 (by decide)).trans hE26_52
  have hE27_53 := (oE27 53 (by decide)).trans hE26_53
  have hE27_54 := (oE27 54 (by decide)).trans hE26_54
  have hE27_55 := (oE27 55 (by decide)).trans hE26_55
  have hE27_56 := (oE27 56 (by decide)).trans hE26_56
  have hE27_57 := (oE27 57 (by decide)).trans hE26_57
  have hE27_58 := (oE27 58 (by decide)).trans hE26_58
  have hE27_59 := (oE27 59 (by decide)).trans hE26_59
  have hE27_60 := (oE27 60 (by decide)).trans hE26_60
  have hE27_61 := (oE27 61 (by decide)).trans hE26_61
  have hE27_62 := (oE27 62 (by decide)).trans hE26_62
  have hE27_63 := (oE27 63 (by decide)).trans hE26_63
  have hE27_64 := (oE27 64 (by decide)).trans hE26_64
  have hE27_65 := (oE27 65 (by decide)).trans hE26_65
  have hE27_66 := (oE27 66 (by decide)).trans hE26_66
  have hE27_67 := (oE27 67 (by decide)).trans hE26_67
  have hE27_51 : E27 51 = ob 3 (rfo ad24 [some 6, none, some 52, some 58, some 64, some 65, some 66, some 67, none]) ip0 := hE27_51
  refine v_aload_n C 0 dX3_init_63 rfl rfl ?_
  refine v_aload_n C 2 dX3_init_64 rfl rfl ?_
  refine v_putr C hin 51 dX3_init_65 fX3_38 (by decide) hE27_51 rfl rfl rfl rfl rfl (fun E28 hE28_51 oE28 => ?_)
  rw [rfo_set (by first | decide | exact Nat.le_of_ble_eq_true rfl)] at hE28_51
  have hE28_52 := (oE28 52 (by decide)).trans hE27_52
  have hE28_53 := (oE28 53 (by decide)).trans hE27_53
  have hE28_54 := (oE28 54 (by decide)).trans hE27_54
  have hE28_55 := (oE28 55 (by decide)).trans hE27_55
  have hE28_56 := (oE28 56 (by decide)).trans hE27_56
  have hE28_57 := (oE28 57 (by decide)).trans hE27_57
  have hE28_58 := (oE28 58 (by decide)).trans hE27_58
  have hE28_59 := (oE28 59 (by decide)).trans hE27_59
  have hE28_60 := (oE28 60 (by decide)).trans hE27_60
  have hE28_61 := (oE28 61 (by decide)).trans hE27_61
  have hE28_62 := (oE28 62 (by decide)).trans hE27_62
  have hE28_63 := (oE28 63 (by decide)).trans hE27_63
  have hE28_64 := (oE28 64 (by decide)).trans hE27_64
  have hE28_65 := (oE28 65 (by decide)).trans hE27_65
  have hE28_66 := (oE28 66 (by decide)).trans hE27_66
  have hE28_67 := (oE28 67 (by decide)).trans hE27_67
  have hE28_51 : E28 51 = ob 3 (rfo ad24 [some 6, some 48, some 52, some 58, some 64, some 65, some 66, some 67, none]) ip0 := hE28_51
  exact v_nret C dX3_init_68 rfl rfl rfl rfl ⟨(fun j hj => ((hAE25 j (by omega)).trans ((hAE22 j (by omega)).trans ((hAE19 j (by omega)).trans ((hAE16 j (by omega)).trans ((hA13 j (by omega)).trans ((hAE9 j (by omega)).trans ((hA6 j (by omega)).trans (hAE2 j (by omega)))))))))), (fun j hj hne => ((oE28 j hne).trans ((oE27 j hne).trans ((oE26 j hne).trans ((oNE25 j (by omega)).trans ((oE23 j hne).trans ((oNE22 j (by omega)).trans ((oE20 j hne).trans ((oNE19 j (by omega)).trans ((oE17 j hne).trans ((oNE16 j (by omega)).trans ((oE14 j hne).trans ((hO13 j (by omega) (by omega)).trans ((oNE9 j (by omega)).trans ((oE7 j hne).trans ((hO6 j (by omega) (by omega)).trans (oNE2 j (by omega)))))))))))))))))), hE28_51, hE28_52, hE28_53, hE28_54, hE28_55, hE28_56, hE28_57, hE28_58, hE28_59, hE28_60, hE28_61, hE28_62, hE28_63, hE28_64, hE28_65, hE28_66, hE28_67⟩

