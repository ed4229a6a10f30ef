def ZNw (G : Gl) (ad : Nat → Nat) (b : Nat) (v : Int32) (E : Nat → va_E) : Prop := E b = ob 6 (rfo ad [some (b + 1), some (b + 2), some (b + 3), some (b + 4), some (b + 5), some (b + 6), some (b + 7), some (b + 8), none, none, none]) ip0 ∧ E (b + 1) = aI G 8 (fun _ => 0) ∧ E (b + 2) = aI G 8 (fun _ => 0) ∧ (∃ f : Nat → Int32, E (b + 3) = aI G 800 f ∧ ∀ q, q < 800 → f q = -1) ∧ E (b + 4) = aI G 8 (fun _ => 0) ∧ E (b + 5) = aI G 8 (fun _ => 0) ∧ E (b + 6) = aI G 801 (fun _ => 0) ∧ E (b + 7) = aI G 801 (upd (fun _ => 0) 0 60000000) ∧ E (b + 8) = aI G 801 (upd (fun _ => 0) 0 v)
set_option maxRecDepth 20000 in
theorem lp_zoneG {X : Mx} {l : Launch} {G : Gl} {A : Nat → Prop} {ret : Option FieldType} {R : Room} {Q : State → Prop} {n : Nat} {ad : Nat → Nat} {ce sl : Nat} (C : Cx X l G A "OddHours$Zone" cX6_init 3 ret R) (b : Nat) (hb : b + 9 ≤ n) (v : Int32) (E0 : Nat → va_E) {r : Nat → Option Nat} {i : Nat → Int32} (h0 : E0 b = ob 6 r i) (hr : r 2 = some (ad (b + 3)))
    (kont : ∀ (E : Nat → va_E) (f : Nat → Int32) (x2 : Int32), E (b + 3) = aI G 800 f → (∀ q, q < 800 → f q = -1) → (∀ j, j ≠ b + 3 → E j = E0 j) → V X G A 3 Q n ad ce sl E 111 [(0, .ref (ad b)), (1, .int v), (2, .int x2)] []) :
    ∀ (t k : Nat) (E : Nat → va_E) (f : Nat → Int32) (x2 : Int32), k + t = 800 → x2.toInt = (k : Int) → E (b + 3) = aI G 800 f → (∀ q, q < k → f q = -1) → (∀ j, j ≠ b + 3 → E j = E0 j) → V X G A 3 Q n ad ce sl E 89 [(0, .ref (ad b)), (1, .int v), (2, .int x2)] [] := by
  intro t
  induction t with
  | zero =>
    intro k E f x2 hk hx2 hE3 hff hfr
    have hEb := (hfr b (by omega)).trans h0
    refine v_iload_n C 2 dX6_init_89 rfl rfl ?_
    refine v_aload_n C 0 dX6_init_90 rfl rfl ?_
    refine v_getr C b dX6_init_91 fX6_18 (by omega) hEb rfl hr ?_
    refine v_alenI (v := 800) C (b + 3) dX6_init_94 (by omega) hE3 (by decide) ?_
    refine b_icmp_ge C 111 dX6_init_95 (by decide) hx2 (show (800 : Int32).toInt = 800 by decide) (fun c31 => ?_) (fun c31 => by exfalso; omega)
    exact kont E f x2 hE3 (fun q hq => hff q (by omega)) hfr
  | succ t ih =>
    intro k E f x2 hk hx2 hE3 hff hfr
    have hEb := (hfr b (by omega)).trans h0
    refine v_iload_n C 2 dX6_init_89 rfl rfl ?_
    refine v_aload_n C 0 dX6_init_90 rfl rfl ?_
    refine v_getr C b dX6_init_91 fX6_18 (by omega) hEb rfl hr ?_
    refine v_alenI (v := 800) C (b + 3) dX6_init_94 (by omega) hE3 (by decide) ?_
    refine b_icmp_ge C 111 dX6_init_95 (by decide) hx2 (show (800 : Int32).toInt = 800 by decide) (fun c31 => by exfalso; omega) (fun c31 => ?_)
    refine v_aload_n C 0 dX6_init_98 rfl rfl ?_
    refine v_getr C b dX6_init_99 fX6_18 (by omega) hEb rfl hr ?_
    refine v_iload_n C 2 dX6_init_102 rfl rfl ?_
    refine v_iconst (v := (-1)) C dX6_init_103 (by decide) ?_
    refine v_ast C (b + 3) dX6_init_104 (by omega) hE3 (ti_in hx2 (by omega) (by omega)) (fun E32 hE32_b3 oE32 => ?_)
    rw [ti_cl hx2, show Int.toNat (k : Int) = k by omega] at hE32_b3
    have hE32_b := (oE32 b (by omega)).trans hEb
    obtain ⟨x33, ex33⟩ : ∃ y : Int32, y = x2 + 1 := ⟨_, rfl⟩
    have hx33 : x33.toInt = ((k : Int) + 1) := by rw [ex33]; exact ti_add hx2 (show (1 : Int32).toInt = 1 by decide) (by omega) (by omega)
    refine v_iinc (v := x33) (lv' := [(0, .ref (ad b)), (1, .int v), (2, .int x33)]) C 2 [1, 2, 0] dX6_init_105 rfl (ex33.symm) (by decide) rfl ?_
    refine v_goto C 89 dX6_init_108 (by decide) ?_
    exact ih (k + 1) _ _ x33 (by omega) (by rw [hx33]; omega) hE32_b3 (fun q hq => by by_cases h : q = k; (subst h; simp [upd]); (simp only [upd, h, if_false]; exact hff q (by omega))) (fun j h => (oE32 j h).trans (hfr j h))

set_option maxRecDepth 20000 in
theorem k_ZoneG (l : Launch) (G : Gl) (ad : Nat → Nat) (E : Nat → va_E) (b : Nat) (v : Int32) (hEb : E b = ob 6 (rfo ad [none, none, none, none, none, none, none, none, none, none, none]) ip0)  : CtN l G yX6_init cX6_init 3 1 16 8 3235 (b + 1) (b + 9) ad E [.ref (ad b), .int v] (fun u => (∀ j, j < b + 1 → u.1 j = ad j) ∧ (∀ j, j < b + 1 → j ≠ b → u.2 j = E j) ∧ u.2 b = ob 6 (rfo u.1 [some (b + 1), some (b + 2), some (b + 3), some (b + 4), some (b + 5), some (b + 6), some (b + 7), some (b + 8), none, none, none]) ip0 ∧ u.2 (b + 1) = aI G 8 (fun _ => 0) ∧ u.2 (b + 2) = aI G 8 (fun _ => 0) ∧ (∃ f : Nat → Int32, u.2 (b + 3) = aI G 800 f ∧ ∀ q, q < 800 → f q = -1) ∧ u.2 (b + 4) = aI G 8 (fun _ => 0) ∧ u.2 (b + 5) = aI G 8 (fun _ => 0) ∧ u.2 (b + 6) = aI G 801 (fun _ => 0) ∧ u.2 (b + 7) = aI G 801 (upd (fun _ => 0) 0 60000000) ∧ u.2 (b + 8) = aI G 801 (upd (fun _ => 0) 0 v)) := by
  refine CtN.of (by decide) (Nat.le_of_ble_eq_true rfl) (fun X A hin C => ?_)
  refine v_sub (lv' := [(0, .ref (ad b)), (1, .int v)]) [0, 1] rfl ?_
  refine v_aload_n C 0 dX6_init_0 rfl rfl ?_
  refine v_obj C dX6_init_1 lX6_3 oi_inst oi_code ⟨by decide, by decide⟩ ?_
  refine v_aload_n C 0 dX6_init_4 rfl rfl ?_
  refine v_bipush (v := 8) C dX6_init_5 (by decide) ?_
  refine w_newI (N := 8) C dX6_init_7 ac_int (by decide) (by decide) (by decide) (by decide) (by decide) (fun ad1 E2 hAE2 hNE2 oNE2 => ?_)
  have aad1_b := hAE2 b (by omega)
  refine v_cast (lv' := [(0, .ref (ad1 b)), (1, .int v)]) (st' := [.ref (ad1 (b + 1)), .ref (ad1 b)]) (by rw [aad1_b]) (by rw [aad1_b]) ?_
  have hNE2 : E2 (b + 1) = _ := hNE2
  have hE2_b := (oNE2 b (by omega)).trans hEb
  rw [rfo_new hAE2 (by first | decide | (simp; done) | (simp; omega))] at hE2_b
  refine v_putr C hin b dX6_init_9 fX6_9 (by omega) hE2_b rfl rfl rfl rfl rfl (fun E3 hE3_b oE3 => ?_)
  rw [rfo_set (by first | decide | exact Nat.le_of_ble_eq_true rfl)] at hE3_b
  have hE3_b1 := (oE3 (b + 1) (by omega)).trans hNE2
  have hE3_b : E3 b = ob 6 (rfo ad1 [some (b + 1), none, none, none, none, none, none, none, none, none, none]) ip0 := hE3_b
  refine v_aload_n C 0 dX6_init_12 rfl rfl ?_
  refine v_bipush (v := 8) C dX6_init_13 (by decide) ?_
  refine w_newI (N := 8) C dX6_init_15 ac_int (by decide) (by decide) (by decide) (by decide) (by decide) (fun ad4 E5 hAE5 hNE5 oNE5 => ?_)
  have aad4_b := hAE5 b (by omega)
  refine v_cast (lv' := [(0, .ref (ad4 b)), (1, .int v)]) (st' := [.ref (ad4 (b + 2)), .ref (ad4 b)]) (by rw [aad4_b]) (by rw [aad4_b]) ?_
  have hNE5 : E5 (b + 2) = _ := hNE5
  have hE5_b := (oNE5 b (by omega)).trans hE3_b
  rw [rfo_new hAE5 (by first | decide | (simp; done) | (simp; omega))] at hE5_b
  have hE5_b1 := (oNE5 (b + 1) (by omega)).trans hE3_b1
  refine v_putr C hin b dX6_init_17 fX6_15 (by omega) hE5_b rfl rfl rfl rfl rfl (fun E6 hE6_b oE6 => ?_)
  rw [rfo_set (by first | decide | exact Nat.le_of_ble_eq_true rfl)] at hE6_b
  have hE6_b1 := (oE6 (b + 1) (by omega)).trans hE5_b1
  have hE6_b2 := (oE6 (b + 2) (by omega)).trans hNE5
  have hE6_b : E6 b = ob 6 (rfo ad4 [some (b + 1), some (b + 2), none, none, none, none, none, none, none, none, none]) ip0 := hE6_b
  refine v_aload_n C 0 dX6_init_20 rfl rfl ?_
  refine v_sipush (v := 800) C dX6_init_21 (by decide) ?_
  refine w_newI (N := 800) C dX6_init_24 ac_int (by decide) (by decide) (by decide) (by decide) (by decide) (fun ad7 E8 hAE8 hNE8 oNE8 => ?_)
  have aad7_b := hAE8 b (by omega)
  refine v_cast (lv' := [(0, .ref (ad7 b)), (1, .int v)]) (st' := [.ref (ad7 (b + 3)), .ref (ad7 b)]) (by rw [aad7_b]) (by rw [aad7_b]) ?_
  have hNE8 : E8 (b + 3) = _ := hNE8
  have hE8_b := (oNE8 b (by omega)).trans hE6_b
  rw [rfo_new hAE8 (by first | decide | (simp; done) | (simp; omega))] at hE8_b
  have hE8_b1 := (oNE8 (b + 1) (by omega)).trans hE6_b1
  have hE8_b2 := (oNE8 (b + 2) (by omega)).trans hE6_b2
  refine v_putr C hin b dX6_init_26 fX6_18 (by omega) hE8_b rfl rfl rfl rfl rfl (fun E9 hE9_b oE9 => ?_)
  rw [rfo_set (by first | decide | exact Nat.le_of_ble_eq_true rfl)] at hE9_b
  have hE9_b1 := (oE9 (b + 1) (by omega)).trans hE8_b1
  have hE9_b2 := (oE9 (b + 2) (by omega)).trans hE8_b2
  have hE9_b3 := (oE9 (b + 3) (by omega)).trans hNE8
  have hE9_b : E9 b = ob 6 (rfo ad7 [some (b + 1), some (b + 2), some (b + 3), none, none, none, none, none, none, none, none]) ip0 := hE9_b
  refine v_aload_n C 0 dX6_init_29 rfl rfl ?_
  refine v_bipush (v := 8) C dX6_init_30 (by decide) ?_
  refine w_newI (N := 8) C dX6_init_32 ac_int (by decide) (by decide) (by decide) (by decide) (by decide) (fun ad10 E11 hAE11 hNE11 oNE11 => ?_)
  have aad10_b := hAE11 b (by omega)
  refine v_cast (lv' := [(0, .ref (ad10 b)), (1, .int v)]) (st' := [.ref (ad10 (b + 4)), .ref (ad10 b)]) (by rw [aad10_b]) (by rw [aad10_b]) ?_
  have hNE11 : E11 (b + 4) = _ := hNE11
  have hE11_b := (oNE11 b (by omega)).trans hE9_b
  rw [rfo_new hAE11 (by first | decide | (simp; done) | (simp; omega))] at hE11_b
  have hE11_b1 := (oNE11 (b + 1) (by omega)).trans hE9_b1
  have hE11_b2 := (oNE11 (b + 2) (by omega)).trans hE9_b2
  have hE11_b3 := (oNE11 (b + 3) (by omega)).trans hE9_b3
  refine v_putr C hin b dX6_init_34 fX6_21 (by omega) hE11_b rfl rfl rfl rfl rfl (fun E12 hE12_b oE12 => ?_)
  rw [rfo_set (by first | decide | exact Nat.le_of_ble_eq_true rfl)] at hE12_b
  have hE12_b1 := (oE12 (b + 1) (by omega)).trans hE11_b1
  have hE12_b2 := (oE12 (b + 2) (by omega)).trans hE11_b2
  have hE12_b3 := (oE12 (b + 3) (by omega)).trans hE11_b3
  have hE12_b4 := (oE12 (b + 4) (by omega)).trans hNE11
  have hE12_b : E12 b = ob 6 (rfo ad10 [some (b + 1), some (b + 2), some (b + 3), some (b + 4), none, none, none, none, none, none, none]) ip0 := hE12_b
  refine v_aload_n C 0 dX6_init_37 rfl rfl ?_
  refine v_bipush (v := 8) C dX6_init_38 (by decide) ?_
  refine w_newI (N := 8) C dX6_init_40 ac_int (by decide) (by decide) (by decide) (by decide) (by decide) (fun ad13 E14 hAE14 hNE14 oNE14 => ?_)
  have aad13_b := hAE14 b (by omega)
  refine v_cast (lv' := [(0, .ref (ad13 b)), (1, .int v)]) (st' := [.ref (ad13 (b + 5)), .ref (ad13 b)]) (by rw [aad13_b]) (by rw [aad13_b]) ?_
  have hNE14 : E14 (b + 5) = _ := hNE14
  have hE14_b := (oNE14 b (by omega)).trans hE12_b
  rw [rfo_new hAE14 (by first | decide | (simp; done) | (simp; omega))] at hE14_b
  have hE14_b1 := (oNE14 (b + 1) (by omega)).trans hE12_b1
  have hE14_b2 := (oNE14 (b + 2) (by omega)).trans hE12_b2
  have hE14_b3 := (oNE14 (b + 3) (by omega)).trans hE12_b3
  have hE14_b4 := (oNE14 (b + 4) (by omega)).trans hE12_b4
  refine v_putr C hin b dX6_init_42 fX6_24 (by omega) hE14_b rfl rfl rfl rfl rfl (fun E15 hE15_b oE15 => ?_)
  rw [rfo_set (by first | decide | exact Nat.le_of_ble_eq_true rfl)] at hE15_b
  have hE15_b1 := (oE15 (b + 1) (by omega)).trans hE14_b1
  have hE15_b2 := (oE15 (b + 2) (by omega)).trans hE14_b2
  have hE15_b3 := (oE15 (b + 3) (by omega)).trans hE14_b3
  have hE15_b4 := (oE15 (b + 4) (by omega)).trans hE14_b4
  have hE15_b5 := (oE15 (b + 5) (by omega)).trans hNE14
  have hE15_b : E15 b = ob 6 (rfo ad13 [some (b + 1), some (b + 2), some (b + 3), some (b + 4), some (b + 5), none, none, none, none, none, none]) ip0 := hE15_b
  refine v_aload_n C 0 dX6_init_45 rfl rfl ?_
  refine v_sipush (v := 801) C dX6_init_46 (by decide) ?_
  refine w_newI (N := 801) C dX6_init_49 ac_int (by decide) (by decide) (by decide) (by decide) (by decide) (fun ad16 E17 hAE17 hNE17 oNE17 => ?_)
  have aad16_b := hAE17 b (by omega)
  refine v_cast (lv' := [(0, .ref (ad16 b)), (1, .int v)]) (st' := [.ref (ad16 (b + 6)), .ref (ad16 b)]) (by rw [aad16_b]) (by rw [aad16_b]) ?_
  have hNE17 : E17 (b + 6) = _ := hNE17
  have hE17_b := (oNE17 b (by omega)).trans hE15_b
  rw [rfo_new hAE17 (by first | decide | (simp; done) | (simp; omega))] at hE17_b
  have hE17_b1 := (oNE17 (b + 1) (by omega)).trans hE15_b1
  have hE17_b2 := (oNE17 (b + 2) (by omega)).trans hE15_b2
  have hE17_b3 := (oNE17 (b + 3) (by omega)).trans hE15_b3
  have hE17_b4 := (oNE17 (b + 4) (by omega)).trans hE15_b4
  have hE17_b5 := (oNE17 (b + 5) (by omega)).trans hE15_b5
  refine v_putr C hin b dX6_init_51 fX6_27 (by omega) hE17_b rfl rfl rfl rfl rfl (fun E18 hE18_b oE18 => ?_)
  rw [rfo_set (by first | decide | exact Nat.le_of_ble_eq_true rfl)] at hE18_b
  have hE18_b1 := (oE18 (b + 1) (by omega)).trans hE17_b1
  have hE18_b2 := (oE18 (b + 2) (by omega)).trans hE17_b2
  have hE18_b3 := (oE18 (b + 3) (by omega)).trans hE17_b3
  have hE18_b4 := (oE18 (b + 4) (by omega)).trans hE17_b4
  have hE18_b5 := (oE18 (b + 5) (by omega)).trans hE17_b5
  have hE18_b6 := (oE18 (b + 6) (by omega)).trans hNE17
  have hE18_b : E18 b = ob 6 (rfo ad16 [some (b + 1), some (b + 2), some (b + 3), some (b + 4), some (b + 5), some (b + 6), none, none, none, none, none]) ip0 := hE18_b
  refine v_aload_n C 0 dX6_init_54 rfl rfl ?_
  refine v_sipush (v := 801) C dX6_init_55 (by decide) ?_
  refine w_newI (N := 801) C dX6_init_58 ac_int (by decide) (by decide) (by decide) (by decide) (by decide) (fun ad19 E20 hAE20 hNE20 oNE20 => ?_)
  have aad19_b := hAE20 b (by omega)
  refine v_cast (lv' := [(0, .ref (ad19 b)), (1, .int v)]) (st' := [.ref (ad19 (b + 7)), .ref (ad19 b)]) (by rw [aad19_b]) (by rw [aad19_b]) ?_
  have hNE20 : E20 (b + 7) = _ := hNE20
  have hE20_b := (oNE20 b (by omega)).trans hE18_b
  rw [rfo_new hAE20 (by first | decide | (simp; done) | (simp; omega))] at hE20_b
  have hE20_b1 := (oNE20 (b + 1) (by omega)).trans hE18_b1
  have hE20_b2 := (oNE20 (b + 2) (by omega)).trans hE18_b2
  have hE20_b3 := (oNE20 (b + 3) (by omega)).trans hE18_b3
  have hE20_b4 := (oNE20 (b + 4) (by omega)).trans hE18_b4
  have hE20_b5 := (oNE20 (b + 5) (by omega)).trans hE18_b5
  have hE20_b6 := (oNE20 (b + 6) (by omega)).trans hE18_b6
  refine v_putr C hin b dX6_init_60 fX6_30 (by omega) hE20_b rfl rfl rfl rfl rfl (fun E21 hE21_b oE21 => ?_)
  rw [rfo_set (by first | decide | exact Nat.le_of_ble_eq_true rfl)] at hE21_b
  have hE21_b1 := (oE21 (b + 1) (by omega)).trans hE20_b1
  have hE21_b2 := (oE21 (b + 2) (by omega)).trans hE20_b2
  have hE21_b3 := (oE21 (b + 3) (by omega)).trans hE20_b3
  have hE21_b4 := (oE21 (b + 4) (by omega)).trans hE20_b4
  have hE21_b5 := (oE21 (b + 5) (by omega)).trans hE20_b5
  have hE21_b6 := (oE21 (b + 6) (by omega)).trans hE20_b6
  have hE21_b7 := (oE21 (b + 7) (by omega)).trans hNE20
  have hE21_b : E21 b = ob 6 (rfo ad19 [some (b + 1), some (b + 2), some (b + 3), some (b + 4), some (b + 5), some (b + 6), some (b + 7), none, none, none, none]) ip0 := hE21_b
  refine v_aload_n C 0 dX6_init_63 rfl rfl ?_
  refine v_sipush (v := 801) C dX6_init_64 (by decide) ?_
  refine w_newI (N := 801) C dX6_init_67 ac_int (by decide) (by decide) (by decide) (by decide) (by decide) (fun ad22 E23 hAE23 hNE23 oNE23 => ?_)
  have aad22_b := hAE23 b (by omega)
  refine v_cast (lv' := [(0, .ref (ad22 b)), (1, .int v)]) (st' := [.ref (ad22 (b + 8)), .ref (ad22 b)]) (by rw [aad22_b]) (by rw [aad22_b]) ?_
  have hNE23 : E23 (b + 8) = _ := hNE23
  have hE23_b := (oNE23 b (by omega)).trans hE21_b
  rw [rfo_new hAE23 (by first | decide | (simp; done) | (simp; omega))] at hE23_b
  have hE23_b1 := (oNE23 (b + 1) (by omega)).trans hE21_b1
  have hE23_b2 := (oNE23 (b + 2) (by omega)).trans hE21_b2
  have hE23_b3 := (oNE23 (b + 3) (by omega)).trans hE21_b3
  have hE23_b4 := (oNE23 (b + 4) (by omega)).trans hE21_b4
  have hE23_b5 := (oNE23 (b + 5) (by omega)).trans hE21_b5
  have hE23_b6 := (oNE23 (b + 6) (by omega)).trans hE21_b6
  have hE23_b7 := (oNE23 (b + 7) (by omega)).trans hE21_b7
  refine v_putr C hin b dX6_init_69 fX6_33 (by omega) hE23_b rfl rfl rfl rfl rfl (fun E24 hE24_b oE24 => ?_)
  rw [rfo_set (by first | decide | exact Nat.le_of_ble_eq_true rfl)] at hE24_b
  have hE24_b1 := (oE24 (b + 1) (by omega)).trans hE23_b1
  have hE24_b2 := (oE24 (b + 2) (by omega)).trans hE23_b2
  have hE24_b3 := (oE24 (b + 3) (by omega)).trans hE23_b3
  have hE24_b4 := (oE24 (b + 4) (by omega)).trans hE23_b4
  have hE24_b5 := (oE24 (b + 5) (by omega)).trans hE23_b5
  have hE24_b6 := (oE24 (b + 6) (by omega)).trans hE23_b6
  have hE24_b7 := (oE24 (b + 7) (by omega)).trans hE23_b7
  have hE24_b8 := (oE24 (b + 8) (by omega)).trans hNE23
  have hE24_b : E24 b = ob 6 (rfo ad22 [some (b + 1), some (b + 2), some (b + 3), some (b + 4), some (b + 5), some (b + 6), some (b + 7), some (b + 8), none, none, none]) ip0 := hE24_b
  refine v_aload_n C 0 dX6_init_72 rfl rfl ?_
  refine v_getr C b dX6_init_73 fX6_33 (by omega) hE24_b rfl rfl ?_
  refine v_iconst (v := 0) C dX6_init_76 (by decide) ?_
  refine v_iload_n C 1 dX6_init_77 rfl rfl ?_
  refine v_ast C (b + 8) dX6_init_78 (by omega) hE24_b8 (ti_in (show (0 : Int32).toInt = 0 by decide) (by omega) (by omega)) (fun E25 hE25_b8 oE25 => ?_)
  rw [ti_cl (show (0 : Int32).toInt = 0 by decide), show Int.toNat 0 = 0 by omega] at hE25_b8
  have hE25_b := (oE25 b (by omega)).trans hE24_b
  have hE25_b1 := (oE25 (b + 1) (by omega)).trans hE24_b1
  have hE25_b2 := (oE25 (b + 2) (by omega)).trans hE24_b2
  have hE25_b3 := (oE25 (b + 3) (by omega)).trans hE24_b3
  have hE25_b4 := (oE25 (b + 4) (by omega)).trans hE24_b4
  have hE25_b5 := (oE25 (b + 5) (by omega)).trans hE24_b5
  have hE25_b6 := (oE25 (b + 6) (by omega)).trans hE24_b6
  have hE25_b7 := (oE25 (b + 7) (by omega)).trans hE24_b7
  refine v_aload_n C 0 dX6_init_79 rfl rfl ?_
  refine v_getr C b dX6_init_80 fX6_30 (by omega) hE25_b rfl rfl ?_
  refine v_iconst (v := 0) C dX6_init_83 (by decide) ?_
  refine v_ldc C dX6_init_84 kX6_36 ?_
  refine v_ast C (b + 7) dX6_init_86 (by omega) hE25_b7 (ti_in (show (0 : Int32).toInt = 0 by decide) (by omega) (by omega)) (fun E26 hE26_b7 oE26 => ?_)
  rw [ti_cl (show (0 : Int32).toInt = 0 by decide), show Int.toNat 0 = 0 by omega] at hE26_b7
  have hE26_b := (oE26 b (by omega)).trans hE25_b
  have hE26_b1 := (oE26 (b + 1) (by omega)).trans hE25_b1
  have hE26_b2 := (oE26 (b + 2) (by omega)).trans hE25_b2
  have hE26_b3 := (oE26 (b + 3) (by omega)).trans hE25_b3
  have hE26_b4 := (oE26 (b + 4) (by omega)).trans hE25_b4
  have hE26_b5 := (oE26 (b + 5) (by omega)).trans hE25_b5
  have hE26_b6 := (oE26 (b + 6) (by omega)).trans hE25_b6
  have hE26_b8 := (oE26 (b + 8) (by omega)).trans hE25_b8
  refine v_iconst (v := 0) C dX6_init_87 (by decide) ?_
  refine v_istore_n (lv' := [(0, .ref (ad22 b)), (1, .int v), (2, .int 0)]) C [1, 2, 0] dX6_init_88 rfl (by decide) rfl ?_
  refine lp_zoneG C b (by omega) v E26 hE26_b rfl (fun E9 f9 x9 h9 hg9 hf9 => ?_) 800 0 E26 _ 0 (by omega) (show (0 : Int32).toInt = 0 by decide) hE26_b3 (fun q hq => absurd hq (Nat.not_lt_zero q)) (fun j _ => rfl)
  exact v_nret C dX6_init_111 rfl rfl rfl rfl ⟨(fun j hj => ((hAE23 j (by omega)).trans ((hAE20 j (by omega)).trans ((hAE17 j (by omega)).trans ((hAE14 j (by omega)).trans ((hAE11 j (by omega)).trans ((hAE8 j (by omega)).trans ((hAE5 j (by omega)).trans (hAE2 j (by omega)))))))))), (fun j hj hne => ((hf9 j (by omega)).trans ((oE26 j (by omega)).trans ((oE25 j (by omega)).trans ((oE24 j hne).trans ((oNE23 j (by omega)).trans ((oE21 j hne).trans ((oNE20 j (by omega)).trans ((oE18 j hne).trans ((oNE17 j (by omega)).trans ((oE15 j hne).trans ((oNE14 j (by omega)).trans ((oE12 j hne).trans ((oNE11 j (by omega)).trans ((oE9 j hne).trans ((oNE8 j (by omega)).trans ((oE6 j hne).trans ((oNE5 j (by omega)).trans ((oE3 j hne).trans (oNE2 j (by omega))))))))))))))))))))), (hf9 b (by omega)).trans hE26_b, (hf9 (b + 1) (by omega)).trans hE26_b1, (hf9 (b + 2) (by omega)).trans hE26_b2, ⟨f9, h9, hg9⟩, (hf9 (b + 4) (by omega)).trans hE26_b4, (hf9 (b + 5) (by omega)).trans hE26_b5, (hf9 (b + 6) (by omega)).trans hE26_b6, (hf9 (b + 7) (by omega)).trans hE26_b7, (hf9 (b + 8) (by omega)).trans hE26_b8⟩

theorem ZNw_of {G : Gl} {ad : Nat → Nat} {b : Nat} {v : Int32} {E E1 : Nat → va_E} (hE : ∀ j, b ≤ j → E1 j = E j) (h : ZNw G ad b v E) : ZNw G ad b v E1 := by
  obtain ⟨h0, h1, h2, ⟨f, h3, h3f⟩, h4, h5, h6, h7, h8⟩ := h
  exact ⟨(hE _ (by omega)).trans h0, (hE _ (by omega)).trans h1, (hE _ (by omega)).trans h2, ⟨f, (hE _ (by omega)).trans h3, h3f⟩, (hE _ (by omega)).trans h4, (hE _ (by omega)).trans h5, (hE _ (by omega)).trans h6, (hE _ (by omega)).trans h7, (hE _ (by omega)).trans h8⟩
set_option maxRecDepth 20000 in
theorem g_make (l : Launch) (G : Gl) (N k : Nat) (hNk : N = 98 + 9 * k) (hk5 : k < 5) (ad : Nat → Nat) (E : Nat → va_E) (v : Int32) {iz : Nat → Int32} (hk : (iz 1).toInt = (k : Int)) (hE6 : E 6 = ob 7 (rfo ad [some 7, none]) iz) {fz : Nat → Option Nat} (hE7 : E 7 = aQ G 3 5 fz)  : CtZ l G yX7_make cX7_make 2 .int 2 38 9 3246 N ad E [.ref (ad 6), .int v] (fun r u => r.toInt = (k : Int) ∧ u.1 = N + 9 ∧ (∀ j, j < N → u.2.1 j = ad j) ∧ (∀ j, j < N → j ≠ 6 → j ≠ 7 → u.2.2 j = E j) ∧ (∃ iz2 : Nat → Int32, u.2.2 6 = ob 7 (rfo u.2.1 [some 7, none]) iz2 ∧ (iz2 1).toInt = (k : Int) + 1) ∧ u.2.2 7 = aQ G 3 5 (va_up fz k (some (u.2.1 N))) ∧ ZNw G u.2.1 N v u.2.2) := by
  refine CtZ.of (by decide) (Nat.le_of_ble_eq_true rfl) (fun X A C => ?_)
  refine v_sub (lv' := [(0, .ref (ad 6)), (1, .int v)]) [0, 1] rfl ?_
  refine v_aload_n C 0 dX7_make_0 rfl rfl ?_
  refine v_geti (v := iz 1) C 6 dX7_make_1 fX7_17 (by omega) hE6 rfl rfl ?_
  refine v_iconst (v := 5) C dX7_make_4 (by decide) ?_
  refine b_icmp_lt C 10 dX7_make_5 (by decide) hk (show (5 : Int32).toInt = 5 by decide) (fun c1 => ?_) (fun c1 => by exfalso; omega)
  refine v_aload_n C 0 dX7_make_10 rfl rfl ?_
  refine v_getr C 6 dX7_make_11 fX7_11 (by omega) hE6 rfl rfl ?_
  refine v_aload_n C 0 dX7_make_14 rfl rfl ?_
  refine v_geti (v := iz 1) C 6 dX7_make_15 fX7_17 (by omega) hE6 rfl rfl ?_
  refine w_new (ci := 6) C dX7_make_18 (by decide) qX7_9 zX6 gX6 (fresh_fs (by decide)) (by decide) (by decide) (fun ad2 E3 hAE3 hNE3 oNE3 => ?_)
  have aad2_6 := hAE3 6 (by omega)
  have aad2_7 := hAE3 7 (by omega)
  refine v_cast (lv' := [(0, .ref (ad2 6)), (1, .int v)]) (st' := [.ref (ad2 N), .int (iz 1), .ref (ad2 7)]) (by rw [aad2_6]) (by rw [aad2_7]) ?_
  rw [← rfo_none (ad := ad2) (k := 11)] at hNE3
  have hNE3 : E3 N = ob 6 (rfo ad2 [none, none, none, none, none, none, none, none, none, none, none]) ip0 := hNE3
  have hE3_6 := (oNE3 6 (by omega)).trans hE6
  rw [rfo_new hAE3 (by first | decide | (simp; done) | (simp; omega))] at hE3_6
  have hE3_7 := (oNE3 7 (by omega)).trans hE7
  refine v_dup C dX7_make_21 rfl ?_
  refine v_iload_n C 1 dX7_make_22 rfl rfl ?_
  refine v_cI C N dX7_make_23 lX7_21 mX6_init (k_ZoneG l G ad2 E3 N v hNE3) ⟨by decide, by decide⟩ rfl (Nat.le_of_ble_eq_true rfl) ⟨by decide, by decide⟩ (fun ad4 E5 hq6 => ?_)
  obtain ⟨hAz, hOz, hcz⟩ := hq6
  dsimp only at hAz hOz hcz
  have aad4_6 := hAz 6 (by omega)
  have aad4_7 := hAz 7 (by omega)
  have aad4_N := hAz N (by omega)
  refine v_cast (lv' := [(0, .ref (ad4 6)), (1, .int v)]) (st' := [.ref (ad4 N), .int (iz 1), .ref (ad4 7)]) (by rw [aad4_6]) (by rw [aad4_7, aad4_N]) ?_
  have hE5_6 := (hOz 6 (by omega) (by omega)).trans hE3_6
  rw [rfo_new hAz (by first | decide | (simp; done) | (simp; omega))] at hE5_6
  have hE5_7 := (hOz 7 (by omega) (by omega)).trans hE3_7
  refine v_astZ C 7 N dX7_make_26 (by omega) hE5_7 (by omega) hcz.1 (by decide) rfl (ti_in hk (by omega) (by omega)) (fun E7 hE7_7 oE7 => ?_)
  rw [ti_cl hk, show Int.toNat (k : Int) = k by omega] at hE7_7
  have hE7_6 := (oE7 6 (by decide)).trans hE5_6
  have hE7_N := (oE7 N (by omega)).trans hcz.1
  refine v_aload_n C 0 dX7_make_27 rfl rfl ?_
  refine v_dup C dX7_make_28 rfl ?_
  refine v_geti (v := iz 1) C 6 dX7_make_29 fX7_17 (by omega) hE7_6 rfl rfl ?_
  refine v_iconst (v := 1) C dX7_make_32 (by decide) ?_
  refine v_iadd C dX7_make_33 ?_
  refine v_top (fun x8 ex8 => ?_)
  have hx8 : x8.toInt = ((k : Int) + 1) := by rw [ex8]; exact ti_add hk (show (1 : Int32).toInt = 1 by decide) (by omega) (by omega)
  refine v_puti C 6 dX7_make_34 fX7_17 (by omega) hE7_6 rfl rfl rfl rfl (fun E9 hE9_6 oE9 => ?_)
  have hE9_7 := (oE9 7 (by decide)).trans hE7_7
  have hE9_N := (oE9 N (by omega)).trans hE7_N
  refine v_aload_n C 0 dX7_make_37 rfl rfl ?_
  refine v_geti (v := x8) C 6 dX7_make_38 fX7_17 (by omega) hE9_6 rfl rfl ?_
  refine v_iconst (v := 1) C dX7_make_41 (by decide) ?_
  refine v_isub C dX7_make_42 ?_
  refine v_top (fun x10 ex10 => ?_)
  have hx10 : x10.toInt = (((k : Int) + 1) - 1) := by rw [ex10]; exact ti_sub hx8 (show (1 : Int32).toInt = 1 by decide) (by omega) (by omega)
  exact v_zret C dX7_make_43 rfl rfl (Nat.le_of_ble_eq_true rfl) (Nat.le_of_ble_eq_true rfl) ⟨(by rw [hx10]; omega), rfl, (fun j hj => ((hAz j (by omega)).trans (hAE3 j (by omega)))), (fun j hj hne h7 => ((oE9 j hne).trans ((oE7 j h7).trans ((hOz j (by omega) (by omega)).trans (oNE3 j (by omega)))))), ⟨_, hE9_6, (by show Int32.toInt x8 = _; rw [hx8])⟩, hE9_7, ZNw_of (fun j hj => (oE9 j (by omega)).trans (oE7 j (by omega))) hcz⟩

set_option maxRecDepth 20000 in
theorem g_zone (l : Launch) (G : Gl) (N k : Nat) (hNk : N = 98 + 9 * k) (hk5 : k ≤ 5) (ad : Nat → Nat) (E : Nat → va_E) (v : Int32) {io iz iq : Nat → Int32} (hk : (iz 1).toInt = (k : Int)) (hE0 : E 0 = ob 8 (rfs ad [1, 6, 8, 48, 45, 51]) io) (hE6 : E 6 = ob 7 (rfs ad [7]) iz) {fz : Nat → Option Nat} (hE7 : E 7 = aQ G 3 5 fz) (hE45 : E 45 = ob 4 (rfs ad [46, 47]) iq)  : CtZ l G yX8_zone cX8_zone 2 .int 3 59 9 3246 N ad E [.ref (ad 0), .int v] (fun r u => (¬ (-720 ≤ v.toInt ∧ v.toInt ≤ 720) ∧ r.toInt = -1 ∧ u.1 = N ∧ u.2.1 = ad ∧ u.2.2 = E) ∨ ((-720 ≤ v.toInt ∧ v.toInt ≤ 720) ∧ k = 5 ∧ r.toInt = -2 ∧ u.1 = N ∧ u.2.1 = ad ∧ u.2.2 = E) ∨ ((-720 ≤ v.toInt ∧ v.toInt ≤ 720) ∧ k < 5 ∧ r.toInt = (k : Int) ∧ u.1 = N + 9 ∧ (∀ j, j < N → u.2.1 j = ad j) ∧ (∀ j, j < N → j ≠ 6 → j ≠ 7 → j ≠ 45 → u.2.2 j = E j) ∧ u.2.2 45 = ob 4 (rfs ad [46, 47]) (va_up iq 5 0) ∧ (∃ iz2 : Nat → Int32, u.2.2 6 = ob 7 (rfo u.2.1 [some 7, none]) iz2 ∧ (iz2 1).toInt = (k : Int) + 1) ∧ u.2.2 7 = aQ G 3 5 (va_up fz k (some (u.2.1 N))) ∧ ZNw G u.2.1 N v u.2.2)) := by
  refine CtZ.of (by decide) (Nat.le_of_ble_eq_true rfl) (fun X A C => ?_)
  refine v_sub (lv' := [(0, .ref (ad 0)), (1, .int v)]) [0, 1] rfl ?_
  refine v_iload_n C 1 dX8_zone_0 rfl rfl ?_
  refine v_cSp C dX8_zone_1 lX8_123 mX8_isOffset (c_isOffset l G N ad _ v) ⟨by decide, by decide⟩ rfl (Nat.le_of_ble_eq_true rfl) ⟨by decide, by decide⟩ (fun r2 hp1 => ?_)
  rcases hp1 with ⟨rfl, hp1⟩ | ⟨rfl, hp1⟩
  · refine b_if_ne C 9 dX8_zone_4 (by decide) (show (1 : Int32).toInt = 1 by decide) (fun c3 => ?_) (fun c3 => absurd c3 (by decide))
    refine v_aload_n C 0 dX8_zone_9 rfl rfl ?_
    refine v_getr C 0 dX8_zone_10 fX8_19 (by omega) hE0 rfl rfl ?_
    refine v_geti (v := iz 1) C 6 dX8_zone_13 fX8_64 (by omega) hE6 rfl rfl ?_
    refine v_iconst (v := 5) C dX8_zone_16 (by decide) ?_
    refine b_icmp_lt C 23 dX8_zone_17 (by decide) hk (show (5 : Int32).toInt = 5 by decide) (fun c4 => ?_) (fun c4 => ?_)
    · refine v_aload_n C 0 dX8_zone_23 rfl rfl ?_
      refine v_getr C 0 dX8_zone_24 fX8_33 (by omega) hE0 rfl rfl ?_
      refine v_cVv C dX8_zone_27 lX8_126 mX4_forget 45 (by omega) hE45 (by decide) rfl (c_forget l G N ad _ (by omega) hE45) ⟨by decide, by decide⟩ rfl (Nat.le_of_ble_eq_true rfl) ⟨by decide, by decide⟩ (fun E5 hq6 => ?_)
      obtain ⟨hE5_45, oE5⟩ := hq6
      have hE5_0 := (oE5 0 (by decide)).trans hE0
      have hE5_6 := (oE5 6 (by decide)).trans hE6
      have hE5_7 := (oE5 7 (by decide)).trans hE7
      refine v_aload_n C 0 dX8_zone_30 rfl rfl ?_
      refine v_getr C 0 dX8_zone_31 fX8_19 (by omega) hE5_0 rfl rfl ?_
      refine v_iload_n C 1 dX8_zone_34 rfl rfl ?_
      have h6x : E5 6 = ob 7 (rfo ad [some 7, none]) iz := hE5_6.trans rfl
      refine v_cVz C dX8_zone_35 lX8_129 mX7_make 6 (by omega) hE5_6 (by decide) rfl (g_make l G N k hNk (by omega) ad _ v hk h6x hE5_7) ⟨by decide, by decide⟩ rfl (Nat.le_of_ble_eq_true rfl) ⟨by decide, by decide⟩ (fun r7 n8 ad9 E10 hq11 => ?_)
      obtain ⟨hr0, hn1, hA1, hO1, hz6, hz7, hzn⟩ := hq11
      dsimp only at hr0 hn1 hA1 hO1 hz6 hz7 hzn
      exact v_zret C dX8_zone_38 rfl rfl (Nat.le_of_ble_eq_true rfl) (Nat.le_of_ble_eq_true rfl) (Or.inr (Or.inr ⟨by omega, by omega, hr0, hn1, hA1, (fun j hj h6 h7 h45 => (hO1 j hj h6 h7).trans (oE5 j h45)), (hO1 45 (by omega) (by decide) (by decide)).trans hE5_45, hz6, hz7, hzn⟩))
    · refine v_bipush (v := (-2)) C dX8_zone_20 (by decide) ?_
      exact v_zret C dX8_zone_22 rfl rfl (Nat.zero_le _) (Nat.zero_le _) (Or.inr (Or.inl ⟨by omega, by omega, by decide, rfl, rfl, rfl⟩))
  · refine b_if_ne C 9 dX8_zone_4 (by decide) (show (0 : Int32).toInt = 0 by decide) (fun c12 => absurd c12 (by decide)) (fun c12 => ?_)
    refine v_iconst (v := (-1)) C dX8_zone_7 (by decide) ?_
    exact v_zret C dX8_zone_8 rfl rfl (Nat.zero_le _) (Nat.zero_le _) (Or.inl ⟨by omega, by decide, rfl, rfl, rfl⟩)

