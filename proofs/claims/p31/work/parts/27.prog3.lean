set_option maxRecDepth 20000 in
theorem c_empty (l : Launch) (G : Gl) (n : Nat) (ad : Nat → Nat) (E : Nat → va_E) (b : Nat) (hb : b + 6 ≤ n) {sz : Int32} (hW : PgW G ad b E sz) (hs1 : 0 ≤ sz.toInt) (hs2 : sz.toInt ≤ 10)  : CtV l G yX5_empty cX5_empty 1 3 68 n ad E [.ref (ad b)] (fun E' => PgW G ad b E' 0 ∧ Fr6 b E E') := by
  refine CtV.of (by decide) (Nat.le_of_ble_eq_true rfl) (fun X A C => ?_)
  obtain ⟨ip, po, px, py, tp, kd, hEb, hsz, hh1, hh2, hEb1, hEb2, hEb3, hEb4, hEb5⟩ := id hW
  refine v_sub (lv' := [(0, .ref (ad b))]) [0] rfl ?_
  refine v_aload_n C 0 dX5_empty_0 rfl rfl ?_
  refine v_iconst (v := 0) C dX5_empty_1 (by decide) ?_
  refine v_puti C b dX5_empty_2 fX5_27 (by omega) hEb rfl rfl rfl rfl (fun E1 hE1_b oE1 => ?_)
  have hE1_b5 := (oE1 (b + 5) (by omega)).trans hEb5
  have hE1_b1 := (oE1 (b + 1) (by omega)).trans hEb1
  have hE1_b2 := (oE1 (b + 2) (by omega)).trans hEb2
  have hE1_b3 := (oE1 (b + 3) (by omega)).trans hEb3
  have hE1_b4 := (oE1 (b + 4) (by omega)).trans hEb4
  refine v_aload_n C 0 dX5_empty_5 rfl rfl ?_
  refine v_cVv C dX5_empty_6 lX5_31 mX5_fit b (by omega) hE1_b (by decide) rfl (c_fit l G n ad _ b hb hE1_b hE1_b5 hE1_b1 hE1_b2 hE1_b3 hE1_b4 (show 0 ≤ Int32.toInt 0 by decide) (show Int32.toInt 0 ≤ 10 by decide)) ⟨by decide, by decide⟩ rfl (Nat.le_of_ble_eq_true rfl) ⟨Nat.zero_le _, Nat.zero_le _⟩ (fun E2 hq3 => ?_)
  obtain ⟨ip4, tp4, kd4, hB4, h64, hl4, hu4, h44, h54, hO4⟩ := hq3
  have hE2_b1 := (hO4 (b + 1) (by omega) (by omega) (by omega)).trans hE1_b1
  have hE2_b2 := (hO4 (b + 2) (by omega) (by omega) (by omega)).trans hE1_b2
  have hE2_b3 := (hO4 (b + 3) (by omega) (by omega) (by omega)).trans hE1_b3
  exact v_vret C dX5_empty_9 rfl ⟨⟨_, _, _, _, _, _, hB4, h64, hl4, hu4, hE2_b1, hE2_b2, hE2_b3, h44, h54⟩, (fun j hj => ((hO4 j (by omega) (by omega) (by omega)).trans (oE1 j (by omega))))⟩

set_option maxRecDepth 20000 in
theorem c_replace (l : Launch) (G : Gl) (n : Nat) (ad : Nat → Nat) (E : Nat → va_E) (b : Nat) (hb : b + 6 ≤ n) {sz : Int32} (hW : PgW G ad b E sz) (hs1 : 0 ≤ sz.toInt) (hs2 : sz.toInt ≤ 10) (i op x y : Int32)  : CtV l G yX5_replace cX5_replace 5 3 68 n ad E [.ref (ad b), .int i, .int op, .int x, .int y] (fun E' => PgW G ad b E' sz ∧ Fr6 b E E') := by
  refine CtV.of (by decide) (Nat.le_of_ble_eq_true rfl) (fun X A C => ?_)
  obtain ⟨ip, po, px, py, tp, kd, hEb, hsz, hh1, hh2, hEb1, hEb2, hEb3, hEb4, hEb5⟩ := id hW
  refine v_sub (lv' := [(0, .ref (ad b)), (1, .int i), (2, .int op), (3, .int x), (4, .int y)]) [0, 1, 2, 3, 4] rfl ?_
  refine v_iload_n C 1 dX5_replace_0 rfl rfl ?_
  refine b_if_lt C 38 dX5_replace_1 (by decide) (rfl : Int32.toInt i = _) (fun c1 => ?_) (fun c1 => ?_)
  · exact v_vret C dX5_replace_38 rfl ⟨hW, fun j _ => rfl⟩
  · refine v_iload_n C 1 dX5_replace_4 rfl rfl ?_
    refine v_aload_n C 0 dX5_replace_5 rfl rfl ?_
    refine v_geti (v := ip 6) C b dX5_replace_6 fX5_27 (by omega) hEb rfl rfl ?_
    refine b_icmp_ge C 38 dX5_replace_9 (by decide) (rfl : Int32.toInt i = _) (show (ip 6).toInt = sz.toInt by rw [hsz]) (fun c2 => ?_) (fun c2 => ?_)
    · exact v_vret C dX5_replace_38 rfl ⟨hW, fun j _ => rfl⟩
    · refine v_aload_n C 0 dX5_replace_12 rfl rfl ?_
      refine v_getr C b dX5_replace_13 fX5_9 (by omega) hEb rfl rfl ?_
      refine v_iload_n C 1 dX5_replace_16 rfl rfl ?_
      refine v_iload_n C 2 dX5_replace_17 rfl rfl ?_
      refine v_ast C (b + 1) dX5_replace_18 (by omega) hEb1 (ti_in (rfl : Int32.toInt i = _) (by omega) (by omega)) (fun E3 hE3_b1 oE3 => ?_)
      rw [ti_cl (rfl : Int32.toInt i = _)] at hE3_b1
      have hE3_b := (oE3 b (by omega)).trans hEb
      have hE3_b5 := (oE3 (b + 5) (by omega)).trans hEb5
      have hE3_b2 := (oE3 (b + 2) (by omega)).trans hEb2
      have hE3_b3 := (oE3 (b + 3) (by omega)).trans hEb3
      have hE3_b4 := (oE3 (b + 4) (by omega)).trans hEb4
      refine v_aload_n C 0 dX5_replace_19 rfl rfl ?_
      refine v_getr C b dX5_replace_20 fX5_15 (by omega) hE3_b rfl rfl ?_
      refine v_iload_n C 1 dX5_replace_23 rfl rfl ?_
      refine v_iload_n C 3 dX5_replace_24 rfl rfl ?_
      refine v_ast C (b + 2) dX5_replace_25 (by omega) hE3_b2 (ti_in (rfl : Int32.toInt i = _) (by omega) (by omega)) (fun E4 hE4_b2 oE4 => ?_)
      rw [ti_cl (rfl : Int32.toInt i = _)] at hE4_b2
      have hE4_b := (oE4 b (by omega)).trans hE3_b
      have hE4_b5 := (oE4 (b + 5) (by omega)).trans hE3_b5
      have hE4_b1 := (oE4 (b + 1) (by omega)).trans hE3_b1
      have hE4_b3 := (oE4 (b + 3) (by omega)).trans hE3_b3
      have hE4_b4 := (oE4 (b + 4) (by omega)).trans hE3_b4
      refine v_aload_n C 0 dX5_replace_26 rfl rfl ?_
      refine v_getr C b dX5_replace_27 fX5_18 (by omega) hE4_b rfl rfl ?_
      refine v_iload_n C 1 dX5_replace_30 rfl rfl ?_
      refine v_iload C 4 dX5_replace_31 rfl ?_
      refine v_ast C (b + 3) dX5_replace_33 (by omega) hE4_b3 (ti_in (rfl : Int32.toInt i = _) (by omega) (by omega)) (fun E5 hE5_b3 oE5 => ?_)
      rw [ti_cl (rfl : Int32.toInt i = _)] at hE5_b3
      have hE5_b := (oE5 b (by omega)).trans hE4_b
      have hE5_b5 := (oE5 (b + 5) (by omega)).trans hE4_b5
      have hE5_b1 := (oE5 (b + 1) (by omega)).trans hE4_b1
      have hE5_b2 := (oE5 (b + 2) (by omega)).trans hE4_b2
      have hE5_b4 := (oE5 (b + 4) (by omega)).trans hE4_b4
      refine v_aload_n C 0 dX5_replace_34 rfl rfl ?_
      refine v_cVv C dX5_replace_35 lX5_31 mX5_fit b (by omega) hE5_b (by decide) rfl (c_fit l G n ad _ b hb hE5_b hE5_b5 hE5_b1 hE5_b2 hE5_b3 hE5_b4 (show 0 ≤ Int32.toInt (ip 6) by rw [hsz]; omega) (show Int32.toInt (ip 6) ≤ 10 by rw [hsz]; omega)) ⟨by decide, by decide⟩ rfl (Nat.le_of_ble_eq_true rfl) ⟨Nat.zero_le _, Nat.zero_le _⟩ (fun E6 hq7 => ?_)
      obtain ⟨ip8, tp8, kd8, hB8, h68, hl8, hu8, h48, h58, hO8⟩ := hq7
      have hE6_b1 := (hO8 (b + 1) (by omega) (by omega) (by omega)).trans hE5_b1
      have hE6_b2 := (hO8 (b + 2) (by omega) (by omega) (by omega)).trans hE5_b2
      have hE6_b3 := (hO8 (b + 3) (by omega) (by omega) (by omega)).trans hE5_b3
      exact v_vret C dX5_replace_38 rfl ⟨⟨_, _, _, _, _, _, hB8, (h68.trans hsz), hl8, hu8, hE6_b1, hE6_b2, hE6_b3, h48, h58⟩, (fun j hj => ((hO8 j (by omega) (by omega) (by omega)).trans ((oE5 j (by omega)).trans ((oE4 j (by omega)).trans (oE3 j (by omega))))))⟩

set_option maxRecDepth 20000 in
theorem c_append (l : Launch) (G : Gl) (n : Nat) (ad : Nat → Nat) (E : Nat → va_E) (b : Nat) (hb : b + 6 ≤ n) {sz : Int32} (hW : PgW G ad b E sz) (hs1 : 0 ≤ sz.toInt) (hs2 : sz.toInt ≤ 10) (op x y : Int32)  : CtV l G yX5_append cX5_append 4 4 92 n ad E [.ref (ad b), .int op, .int x, .int y] (fun E' => (10 ≤ sz.toInt ∧ PgW G ad b E' sz ∧ Fr6 b E E') ∨ (∃ sz2 : Int32, sz.toInt < 10 ∧ sz2.toInt = sz.toInt + 1 ∧ PgW G ad b E' sz2 ∧ Fr6 b E E')) := by
  refine CtV.of (by decide) (Nat.le_of_ble_eq_true rfl) (fun X A C => ?_)
  obtain ⟨ip, po, px, py, tp, kd, hEb, hsz, hh1, hh2, hEb1, hEb2, hEb3, hEb4, hEb5⟩ := id hW
  refine v_sub (lv' := [(0, .ref (ad b)), (1, .int op), (2, .int x), (3, .int y)]) [0, 1, 2, 3] rfl ?_
  refine v_aload_n C 0 dX5_append_0 rfl rfl ?_
  refine v_geti (v := ip 6) C b dX5_append_1 fX5_27 (by omega) hEb rfl rfl ?_
  refine v_bipush (v := 10) C dX5_append_4 (by decide) ?_
  refine b_icmp_ge C 32 dX5_append_6 (by decide) (show (ip 6).toInt = sz.toInt by rw [hsz]) (show (10 : Int32).toInt = 10 by decide) (fun c1 => ?_) (fun c1 => ?_)
  · exact v_vret C dX5_append_32 rfl (Or.inl ⟨by omega, hW, fun j _ => rfl⟩)
  · refine v_aload_n C 0 dX5_append_9 rfl rfl ?_
    refine v_dup C dX5_append_10 rfl ?_
    refine v_geti (v := ip 6) C b dX5_append_11 fX5_27 (by omega) hEb rfl rfl ?_
    refine v_iconst (v := 1) C dX5_append_14 (by decide) ?_
    refine v_iadd C dX5_append_15 ?_
    refine v_top (fun x2 ex2 => ?_)
    have hx2 : x2.toInt = (sz.toInt + 1) := by rw [ex2]; exact ti_add (show (ip 6).toInt = sz.toInt by rw [hsz]) (show (1 : Int32).toInt = 1 by decide) (by omega) (by omega)
    refine v_puti C b dX5_append_16 fX5_27 (by omega) hEb rfl rfl rfl rfl (fun E3 hE3_b oE3 => ?_)
    have hE3_b5 := (oE3 (b + 5) (by omega)).trans hEb5
    have hE3_b1 := (oE3 (b + 1) (by omega)).trans hEb1
    have hE3_b2 := (oE3 (b + 2) (by omega)).trans hEb2
    have hE3_b3 := (oE3 (b + 3) (by omega)).trans hEb3
    have hE3_b4 := (oE3 (b + 4) (by omega)).trans hEb4
    refine v_aload_n C 0 dX5_append_19 rfl rfl ?_
    refine v_aload_n C 0 dX5_append_20 rfl rfl ?_
    refine v_geti (v := x2) C b dX5_append_21 fX5_27 (by omega) hE3_b rfl rfl ?_
    refine v_iconst (v := 1) C dX5_append_24 (by decide) ?_
    refine v_isub C dX5_append_25 ?_
    refine v_top (fun x4 ex4 => ?_)
    have hx4 : x4.toInt = ((sz.toInt + 1) - 1) := by rw [ex4]; exact ti_sub hx2 (show (1 : Int32).toInt = 1 by decide) (by omega) (by omega)
    refine v_iload_n C 1 dX5_append_26 rfl rfl ?_
    refine v_iload_n C 2 dX5_append_27 rfl rfl ?_
    refine v_iload_n C 3 dX5_append_28 rfl rfl ?_
    have hW7 : PgW G ad b E3 x2 := ⟨_, po, px, py, tp, kd, hE3_b, rfl, hh1, hh2, hE3_b1, hE3_b2, hE3_b3, hE3_b4, hE3_b5⟩
    refine v_cVv C dX5_append_29 lX5_34 mX5_replace b (by omega) hE3_b (by decide) rfl (c_replace l G n ad _ b hb hW7 (by omega) (by omega) x4 op x y) ⟨by decide, by decide⟩ rfl (Nat.le_of_ble_eq_true rfl) ⟨Nat.zero_le _, Nat.zero_le _⟩ (fun E5 hq6 => ?_)
    exact v_vret C dX5_append_32 rfl (Or.inr ⟨x2, by omega, by rw [hx2], hq6.1, fun j hj => (hq6.2 j hj).trans (oE3 j (by omega))⟩)

set_option maxRecDepth 20000 in
theorem lp_copy {X : Mx} {l : Launch} {G : Gl} {A : Nat → Prop} {ret : Option FieldType} {R : Room} {Q : State → Prop} {n : Nat} {ad : Nat → Nat} (C : Cx X l G A "OddHours$Program" cX5_copyFrom 3 ret R) (b c : Nat) (hb : b + 6 ≤ n) (hc : c + 6 ≤ n) (hbc : b + 6 ≤ c ∨ c + 6 ≤ b) (E0 : Nat → va_E) {ip iq qo qx qy : Nat → Int32} {sz : Int32} (hsz : ip 6 = sz) (hs2 : sz.toInt ≤ 10) (h0 : E0 b = ob 5 (rP ad b) ip) (hc0 : E0 c = ob 5 (rP ad c) iq) (hc1 : E0 (c + 1) = aI G 10 qo) (hc2 : E0 (c + 2) = aI G 10 qx) (hc3 : E0 (c + 3) = aI G 10 qy)
    (k60 : ∀ (E : Nat → va_E) (po px py : Nat → Int32) (x2 : Int32), E (b + 1) = aI G 10 po → E (b + 2) = aI G 10 px → E (b + 3) = aI G 10 py → (∀ j, j ≠ b + 1 → j ≠ b + 2 → j ≠ b + 3 → E j = E0 j) → V X G A 3 Q n ad 0 0 E 60 [(0, .ref (ad b)), (1, .ref (ad c)), (2, .int x2)] []) :
    ∀ (t k : Nat) (E : Nat → va_E) (po px py : Nat → Int32) (x2 : Int32), (k : Int) + (t : Int) = sz.toInt → x2.toInt = (k : Int) → E (b + 1) = aI G 10 po → E (b + 2) = aI G 10 px → E (b + 3) = aI G 10 py → (∀ j, j ≠ b + 1 → j ≠ b + 2 → j ≠ b + 3 → E j = E0 j) → V X G A 3 Q n ad 0 0 E 10 [(0, .ref (ad b)), (1, .ref (ad c)), (2, .int x2)] [] := by
  intro t
  induction t with
  | zero =>
    intro k E po px py x2 hk hx2 hEb1 hEb2 hEb3 hfr
    have hEb := (hfr b (by omega) (by omega) (by omega)).trans h0
    have hEc := (hfr c (by omega) (by omega) (by omega)).trans hc0
    have hEc1 := (hfr (c + 1) (by omega) (by omega) (by omega)).trans hc1
    have hEc2 := (hfr (c + 2) (by omega) (by omega) (by omega)).trans hc2
    have hEc3 := (hfr (c + 3) (by omega) (by omega) (by omega)).trans hc3
    refine v_iload_n C 2 dX5_copyFrom_10 rfl rfl ?_
    refine v_aload_n C 0 dX5_copyFrom_11 rfl rfl ?_
    refine v_geti (v := ip 6) C b dX5_copyFrom_12 fX5_27 (by omega) hEb rfl rfl ?_
    refine b_icmp_ge C 60 dX5_copyFrom_15 (by decide) hx2 (show (ip 6).toInt = sz.toInt by rw [hsz]) (fun c31 => ?_) (fun c31 => by exfalso; omega)
    exact k60 E po px py x2 hEb1 hEb2 hEb3 hfr
  | succ t ih =>
    intro k E po px py x2 hk hx2 hEb1 hEb2 hEb3 hfr
    have hEb := (hfr b (by omega) (by omega) (by omega)).trans h0
    have hEc := (hfr c (by omega) (by omega) (by omega)).trans hc0
    have hEc1 := (hfr (c + 1) (by omega) (by omega) (by omega)).trans hc1
    have hEc2 := (hfr (c + 2) (by omega) (by omega) (by omega)).trans hc2
    have hEc3 := (hfr (c + 3) (by omega) (by omega) (by omega)).trans hc3
    refine v_iload_n C 2 dX5_copyFrom_10 rfl rfl ?_
    refine v_aload_n C 0 dX5_copyFrom_11 rfl rfl ?_
    refine v_geti (v := ip 6) C b dX5_copyFrom_12 fX5_27 (by omega) hEb rfl rfl ?_
    refine b_icmp_ge C 60 dX5_copyFrom_15 (by decide) hx2 (show (ip 6).toInt = sz.toInt by rw [hsz]) (fun c31 => by exfalso; omega) (fun c31 => ?_)
    refine v_aload_n C 0 dX5_copyFrom_18 rfl rfl ?_
    refine v_getr C b dX5_copyFrom_19 fX5_9 (by omega) hEb rfl rfl ?_
    refine v_iload_n C 2 dX5_copyFrom_22 rfl rfl ?_
    refine v_aload_n C 1 dX5_copyFrom_23 rfl rfl ?_
    refine v_getr C c dX5_copyFrom_24 fX5_9 (by omega) hEc rfl rfl ?_
    refine v_iload_n C 2 dX5_copyFrom_27 rfl rfl ?_
    refine v_ald (v := qo k) C (c + 1) dX5_copyFrom_28 (by omega) hEc1 (ti_in hx2 (by omega) (by omega)) (by rw [ti_cl hx2, show Int.toNat (k : Int) = k by omega]) ?_
    refine v_ast C (b + 1) dX5_copyFrom_29 (by omega) hEb1 (ti_in hx2 (by omega) (by omega)) (fun E32 hE32_b1 oE32 => ?_)
    rw [ti_cl hx2, show Int.toNat (k : Int) = k by omega] at hE32_b1
    have hE32_c := (oE32 c (by omega)).trans hEc
    have hE32_c1 := (oE32 (c + 1) (by omega)).trans hEc1
    have hE32_c2 := (oE32 (c + 2) (by omega)).trans hEc2
    have hE32_c3 := (oE32 (c + 3) (by omega)).trans hEc3
    have hE32_b := (oE32 b (by omega)).trans hEb
    have hE32_b2 := (oE32 (b + 2) (by omega)).trans hEb2
    have hE32_b3 := (oE32 (b + 3) (by omega)).trans hEb3
    refine v_aload_n C 0 dX5_copyFrom_30 rfl rfl ?_
    refine v_getr C b dX5_copyFrom_31 fX5_15 (by omega) hE32_b rfl rfl ?_
    refine v_iload_n C 2 dX5_copyFrom_34 rfl rfl ?_
    refine v_aload_n C 1 dX5_copyFrom_35 rfl rfl ?_
    refine v_getr C c dX5_copyFrom_36 fX5_15 (by omega) hE32_c rfl rfl ?_
    refine v_iload_n C 2 dX5_copyFrom_39 rfl rfl ?_
    refine v_ald (v := qx k) C (c + 2) dX5_copyFrom_40 (by omega) hE32_c2 (ti_in hx2 (by omega) (by omega)) (by rw [ti_cl hx2, show Int.toNat (k : Int) = k by omega]) ?_
    refine v_ast C (b + 2) dX5_copyFrom_41 (by omega) hE32_b2 (ti_in hx2 (by omega) (by omega)) (fun E33 hE33_b2 oE33 => ?_)
    rw [ti_cl hx2, show Int.toNat (k : Int) = k by omega] at hE33_b2
    have hE33_c := (oE33 c (by omega)).trans hE32_c
    have hE33_c1 := (oE33 (c + 1) (by omega)).trans hE32_c1
    have hE33_c2 := (oE33 (c + 2) (by omega)).trans hE32_c2
    have hE33_c3 := (oE33 (c + 3) (by omega)).trans hE32_c3
    have hE33_b := (oE33 b (by omega)).trans hE32_b
    have hE33_b1 := (oE33 (b + 1) (by omega)).trans hE32_b1
    have hE33_b3 := (oE33 (b + 3) (by omega)).trans hE32_b3
    refine v_aload_n C 0 dX5_copyFrom_42 rfl rfl ?_
    refine v_getr C b dX5_copyFrom_43 fX5_18 (by omega) hE33_b rfl rfl ?_
    refine v_iload_n C 2 dX5_copyFrom_46 rfl rfl ?_
    refine v_aload_n C 1 dX5_copyFrom_47 rfl rfl ?_
    refine v_getr C c dX5_copyFrom_48 fX5_18 (by omega) hE33_c rfl rfl ?_
    refine v_iload_n C 2 dX5_copyFrom_51 rfl rfl ?_
    refine v_ald (v := qy k) C (c + 3) dX5_copyFrom_52 (by omega) hE33_c3 (ti_in hx2 (by omega) (by omega)) (by rw [ti_cl hx2, show Int.toNat (k : Int) = k by omega]) ?_
    refine v_ast C (b + 3) dX5_copyFrom_53 (by omega) hE33_b3 (ti_in hx2 (by omega) (by omega)) (fun E34 hE34_b3 oE34 => ?_)
    rw [ti_cl hx2, show Int.toNat (k : Int) = k by omega] at hE34_b3
    have hE34_c := (oE34 c (by omega)).trans hE33_c
    have hE34_c1 := (oE34 (c + 1) (by omega)).trans hE33_c1
    have hE34_c2 := (oE34 (c + 2) (by omega)).trans hE33_c2
    have hE34_c3 := (oE34 (c + 3) (by omega)).trans hE33_c3
    have hE34_b := (oE34 b (by omega)).trans hE33_b
    have hE34_b1 := (oE34 (b + 1) (by omega)).trans hE33_b1
    have hE34_b2 := (oE34 (b + 2) (by omega)).trans hE33_b2
    obtain ⟨x35, ex35⟩ : ∃ y : Int32, y = x2 + 1 := ⟨_, rfl⟩
    have hx35 : x35.toInt = ((k : Int) + 1) := by rw [ex35]; exact ti_add hx2 (show (1 : Int32).toInt = 1 by decide) (by omega) (by omega)
    refine v_iinc (v := x35) (lv' := [(0, .ref (ad b)), (1, .ref (ad c)), (2, .int x35)]) C 2 [1, 2, 0] dX5_copyFrom_54 rfl (ex35.symm) (by decide) rfl ?_
    refine v_goto C 10 dX5_copyFrom_57 (by decide) ?_
    exact ih (k + 1) _ _ _ _ x35 (by omega) (by rw [hx35]; omega) hE34_b1 hE34_b2 hE34_b3 (fun j p q r => (((oE34 j r).trans ((oE33 j q).trans (oE32 j p)))).trans (hfr j p q r))

set_option maxRecDepth 20000 in
theorem c_copyFrom (l : Launch) (G : Gl) (n : Nat) (ad : Nat → Nat) (E : Nat → va_E) (b c : Nat) (hb : b + 6 ≤ n) (hc : c + 6 ≤ n) (hbc : b + 6 ≤ c ∨ c + 6 ≤ b) {sz sz2 : Int32} (hW : PgW G ad b E sz) (hC : PgW G ad c E sz2) (hs1 : 0 ≤ sz2.toInt) (hs2 : sz2.toInt ≤ 10)  : CtV l G yX5_copyFrom cX5_copyFrom 3 3 68 n ad E [.ref (ad b), .ref (ad c)] (fun E' => PgW G ad b E' sz2 ∧ Fr6 b E E') := by
  refine CtV.of (by decide) (Nat.le_of_ble_eq_true rfl) (fun X A C => ?_)
  obtain ⟨ip, po, px, py, tp, kd, hEb, hsz, hh1, hh2, hEb1, hEb2, hEb3, hEb4, hEb5⟩ := id hW
  obtain ⟨iq, qo, qx, qy, qt, qk, hEc, hcz, hch1, hch2, hEc1, hEc2, hEc3, hEc4, hEc5⟩ := id hC
  refine v_sub (lv' := [(0, .ref (ad b)), (1, .ref (ad c))]) [0, 1] rfl ?_
  refine v_aload_n C 0 dX5_copyFrom_0 rfl rfl ?_
  refine v_aload_n C 1 dX5_copyFrom_1 rfl rfl ?_
  refine v_geti (v := iq 6) C c dX5_copyFrom_2 fX5_27 (by omega) hEc rfl rfl ?_
  refine v_puti C b dX5_copyFrom_5 fX5_27 (by omega) hEb rfl rfl rfl rfl (fun E1 hE1_b oE1 => ?_)
  have hE1_b5 := (oE1 (b + 5) (by omega)).trans hEb5
  have hE1_b1 := (oE1 (b + 1) (by omega)).trans hEb1
  have hE1_b2 := (oE1 (b + 2) (by omega)).trans hEb2
  have hE1_b3 := (oE1 (b + 3) (by omega)).trans hEb3
  have hE1_b4 := (oE1 (b + 4) (by omega)).trans hEb4
  have hE1_c := (oE1 c (by omega)).trans hEc
  have hE1_c1 := (oE1 (c + 1) (by omega)).trans hEc1
  have hE1_c2 := (oE1 (c + 2) (by omega)).trans hEc2
  have hE1_c3 := (oE1 (c + 3) (by omega)).trans hEc3
  refine v_iconst (v := 0) C dX5_copyFrom_8 (by decide) ?_
  refine v_istore_n (lv' := [(0, .ref (ad b)), (1, .ref (ad c)), (2, .int 0)]) C [1, 2, 0] dX5_copyFrom_9 rfl (by decide) rfl ?_
  obtain ⟨T, hT⟩ : ∃ T : Nat, (T : Int) = sz2.toInt := ⟨sz2.toInt.toNat, by omega⟩
  refine lp_copy C b c hb hc hbc E1 (ip := va_up ip 6 (iq 6)) (sz := sz2) hcz (by omega) hE1_b hE1_c hE1_c1 hE1_c2 hE1_c3 (fun E9 po9 px9 py9 x9 h19 h29 h39 hf9 => ?_) T 0 E1 po px py 0 (by omega) (show (0 : Int32).toInt = 0 by decide) hE1_b1 hE1_b2 hE1_b3 (fun j _ _ _ => rfl)
  have hE9_b := (hf9 b (by omega) (by omega) (by omega)).trans hE1_b
  have hE9_b4 := (hf9 (b + 4) (by omega) (by omega) (by omega)).trans hE1_b4
  have hE9_b5 := (hf9 (b + 5) (by omega) (by omega) (by omega)).trans hE1_b5
  refine v_aload_n C 0 dX5_copyFrom_60 rfl rfl ?_
  refine v_cVv C dX5_copyFrom_61 lX5_31 mX5_fit b (by omega) hE9_b (by decide) rfl (c_fit l G n ad _ b hb hE9_b hE9_b5 h19 h29 h39 hE9_b4 (show 0 ≤ Int32.toInt (iq 6) by rw [hcz]; omega) (show Int32.toInt (iq 6) ≤ 10 by rw [hcz]; omega)) ⟨by decide, by decide⟩ rfl (Nat.le_of_ble_eq_true rfl) ⟨Nat.zero_le _, Nat.zero_le _⟩ (fun E2 hq3 => ?_)
  obtain ⟨ip4, tp4, kd4, hB4, h64, hl4, hu4, h44, h54, hO4⟩ := hq3
  have hE2_b1 := (hO4 (b + 1) (by omega) (by omega) (by omega)).trans h19
  have hE2_b2 := (hO4 (b + 2) (by omega) (by omega) (by omega)).trans h29
  have hE2_b3 := (hO4 (b + 3) (by omega) (by omega) (by omega)).trans h39
  exact v_vret C dX5_copyFrom_64 rfl ⟨⟨_, _, _, _, _, _, hB4, (h64.trans hcz), hl4, hu4, hE2_b1, hE2_b2, hE2_b3, h44, h54⟩, (fun j hj => ((hO4 j (by omega) (by omega) (by omega)).trans ((hf9 j (by omega) (by omega) (by omega)).trans (oE1 j (by omega)))))⟩

