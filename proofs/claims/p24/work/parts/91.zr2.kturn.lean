set_option maxRecDepth 20000 in
theorem z_firstBehind (l : Launch) (G : Gl) (n : Nat) (ad : Nat → Nat) (E : Nat → va_E) (b : Nat) (hb : b + 9 ≤ n) {ib : Nat → Int32} (hB : E b = ob 6 (rfs ad [b + 1, b + 2, b + 3, b + 4, b + 5, b + 6, b + 7, b + 8]) ib) {ss : Nat → Int32} (h6 : E (b + 6) = aI G 801 ss) {se : Nat → Int32} (h7 : E (b + 7) = aI G 801 se) {os : Nat → Int32} (h8 : E (b + 8) = aI G 801 os) {c : Nat} (hc : (ib 10).toInt = (c : Int)) (hS : STR c ss se os) {T : TST} (hcT : c = T.1) (hZ : ZR (c : Int) ss os T) (hok : okT 69300000 T) (w : Int32) (f : Int32) (hw : 0 ≤ w.toInt ∧ w.toInt ≤ 69400000) {f0 : Nat} (hf : f.toInt = (f0 : Int)) (hf0 : f0 ≤ c) (hff : ffT T (w.toInt + 1) 2147483647 f0 = -1) : CtI l G yX6_firstBehind cX6_firstBehind 5 .int 1 21 (n) ad E [.ref (ad b), .int w, .int f] (fun r E' => (r.toInt = ffT T (w.toInt + 1) 2147483647 (T.1 + 1)) ∧ E = E') := by
  refine CtI.of (by decide) (Nat.le_of_ble_eq_true rfl) (fun X A C => ?_)
  refine v_sub (lv' := [(0, .ref (ad b)), (1, .int w), (2, .int f)]) [0, 1, 2] rfl ?_
  have hc8 := hS.1
  refine v_iload_n C 2 dX6_firstBehind_0 rfl rfl ?_
  refine v_istore_n (lv' := [(0, .ref (ad b)), (1, .int w), (2, .int f), (3, .int f)]) C [1, 2, 3, 0] dX6_firstBehind_1 rfl (by decide) rfl ?_
  have LP1 : ∀ (t : Nat) (j1 : Nat) (y2 : Int32) (E3 : Nat → va_E), (y2.toInt = (j1 : Int)) → (∀ j, E3 j = E j) → (j1 ≤ c + 1) → (ffT T (w.toInt + 1) 2147483647 j1 = -1) → (c : Int) + 1 - (j1 : Int) < (t : Int) → V X G A 5 (QI X G A (n) ad (fun r E' => (r.toInt = ffT T (w.toInt + 1) 2147483647 (T.1 + 1)) ∧ E = E')) (n) ad 0 0 E3 2 [(0, .ref (ad b)), (1, .int w), (3, .int y2)] [] := by
    intro t6
    induction t6 with
    | zero => intro j1 y2 E3 hy2 hfr4 hq5 hfj hm8; exfalso; omega
    | succ t6 ih7 =>
      intro j1 y2 E3 hy2 hfr4 hq5 hfj hm8
      have hE3_b := (hfr4 b ).trans hB
      have hE3_b6 := (hfr4 (b + 6) ).trans h6
      have hE3_b7 := (hfr4 (b + 7) ).trans h7
      have hE3_b8 := (hfr4 (b + 8) ).trans h8
      refine v_iload_n C 2 dX6_firstBehind_2 rfl rfl ?_
      refine v_aload_n C 0 dX6_firstBehind_3 rfl rfl ?_
      refine v_geti (v := ib 10) C b dX6_firstBehind_4 fX6_47 (by omega) hE3_b rfl rfl ?_
      refine b_icmp_gt C 51 dX6_firstBehind_7 (by decide) hy2 hc (fun c9 => ?_) (fun c9 => ?_)
      · refine v_iconst (v := (-1)) C dX6_firstBehind_51 (by decide) ?_
        have hEE : E3 = E := funext (fun j => hfr4 j)
        exact v_ret C dX6_firstBehind_52 rfl rfl ⟨(show (-1 : Int32).toInt = -1 by decide).trans (by rw [show T.1 + 1 = j1 by omega]; exact hfj.symm), hEE.symm⟩
      · have hss := (show (ss j1).toInt = T.2.1 j1 from (hZ.2 j1 (by omega)).1)
        have hos := (show (os j1).toInt = T.2.2 j1 from (hZ.2 j1 (by omega)).2)
        have hse := STR_en hcT hZ hS (k := j1) (by omega)
        have hob := hok.2.2.2 j1 (by omega)
        have hsb := hok.2.1 j1 (by omega)
        have hen := en_60 (T := T) (k := j1)
        have hen0 := en_0 hok (k := j1) (by omega)
        refine v_aload_n C 0 dX6_firstBehind_10 rfl rfl ?_
        refine v_getr C b dX6_firstBehind_11 fX6_27 (by omega) hE3_b rfl rfl ?_
        refine v_iload_n C 2 dX6_firstBehind_14 rfl rfl ?_
        refine v_ald (v := ss j1) C (b + 6) dX6_firstBehind_15 (by omega) hE3_b6 (ti_in hy2 (by omega) (by omega)) (by rw [ti_cl hy2, show Int.toNat (j1 : Int) = j1 by omega]) ?_
        refine v_iload_n C 1 dX6_firstBehind_16 rfl rfl ?_
        refine v_iconst (v := 1) C dX6_firstBehind_17 (by decide) ?_
        refine v_iadd C dX6_firstBehind_18 ?_
        refine v_top (fun x10 ex10 => ?_)
        have hx10 : x10.toInt = (w.toInt + 1) := by rw [ex10]; exact ti_add (rfl : Int32.toInt w = _) (show (1 : Int32).toInt = 1 by decide) (by omega) (by omega)
        refine v_aload_n C 0 dX6_firstBehind_19 rfl rfl ?_
        refine v_getr C b dX6_firstBehind_20 fX6_33 (by omega) hE3_b rfl rfl ?_
        refine v_iload_n C 2 dX6_firstBehind_23 rfl rfl ?_
        refine v_ald (v := os j1) C (b + 8) dX6_firstBehind_24 (by omega) hE3_b8 (ti_in hy2 (by omega) (by omega)) (by rw [ti_cl hy2, show Int.toNat (j1 : Int) = j1 by omega]) ?_
        refine v_isub C dX6_firstBehind_25 ?_
        refine v_top (fun x11 ex11 => ?_)
        have hx11 : x11.toInt = ((w.toInt + 1) - (T.2.2 j1)) := by rw [ex11]; exact ti_sub hx10 hos (by omega) (by omega)
        refine v_mmax C dX6_firstBehind_26 lX6_73 mJ9_max_7cf53.2.2.1 mJ9_max_7cf53.2.1 mJ9_max_7cf53.1 ⟨by decide, Nat.le_of_ble_eq_true rfl⟩ ⟨Nat.zero_le _, Nat.zero_le _⟩ ?_
        refine v_top (fun x12 ex12 => ?_)
        have hx12 : (T.2.1 j1) ≤ x12.toInt ∧ ((w.toInt + 1) - (T.2.2 j1)) ≤ x12.toInt ∧ (x12.toInt = (T.2.1 j1) ∨ x12.toInt = ((w.toInt + 1) - (T.2.2 j1))) := by rw [ex12]; exact mmax_b hss hx11
        have hmx : x12.toInt = mxI (w.toInt + 1 - T.2.2 j1) (T.2.1 j1) := by unfold mxI; split <;> omega
        refine v_istore (lv' := [(0, .ref (ad b)), (1, .int w), (3, .int y2), (4, .int x12)]) C [1, 2, 3, 0] dX6_firstBehind_29 (by decide) rfl ?_
        refine v_iload C 3 dX6_firstBehind_31 rfl ?_
        refine v_aload_n C 0 dX6_firstBehind_33 rfl rfl ?_
        refine v_getr C b dX6_firstBehind_34 fX6_30 (by omega) hE3_b rfl rfl ?_
        refine v_iload_n C 2 dX6_firstBehind_37 rfl rfl ?_
        refine v_ald (v := se j1) C (b + 7) dX6_firstBehind_38 (by omega) hE3_b7 (ti_in hy2 (by omega) (by omega)) (by rw [ti_cl hy2, show Int.toNat (j1 : Int) = j1 by omega]) ?_
        refine b_icmp_ge C 45 dX6_firstBehind_39 (by decide) (rfl : Int32.toInt x12 = _) hse (fun c13 => ?_) (fun c13 => ?_)
        · obtain ⟨x14, ex14⟩ : ∃ y : Int32, y = y2 + 1 := ⟨_, rfl⟩
          have hx14 : x14.toInt = ((j1 : Int) + 1) := by rw [ex14]; exact ti_add hy2 (show (1 : Int32).toInt = 1 by decide) (by omega) (by omega)
          refine v_iinc (v := x14) (lv' := [(0, .ref (ad b)), (1, .int w), (3, .int x14), (4, .int x12)]) C 2 [1, 2, 0, 3] dX6_firstBehind_45 rfl (ex14.symm) (by decide) rfl ?_
          refine v_goto C 2 dX6_firstBehind_48 (by decide) ?_
          refine v_sub (lv' := [(0, .ref (ad b)), (1, .int w), (3, .int x14)]) [0, 1, 2] rfl ?_
          exact ih7 (j1 + 1) x14 E3 (show Int32.toInt x14 = ((j1 + 1 : Nat) : Int) by have := hx14; omega) (fun j => (hfr4 j )) (by omega) (ff_miss hfj hmx (by omega)) (by omega)
        · refine v_iload C 3 dX6_firstBehind_42 rfl ?_
          have hEE : E3 = E := funext (fun j => hfr4 j)
          exact v_ret C dX6_firstBehind_44 rfl rfl ⟨(ff_hit hfj hmx (by omega) (by omega) (by omega) (by omega)).symm, hEE.symm⟩
  refine v_sub (lv' := [(0, .ref (ad b)), (1, .int w), (3, .int f)]) [0, 1, 3] rfl ?_
  exact LP1 100000 f0 f E (show Int32.toInt f = ((f0 : Nat) : Int) by have := hf; omega) (fun j => rfl) (by omega) (hff) (by omega)

set_option maxRecDepth 20000 in
theorem z_lastAhead (l : Launch) (G : Gl) (n : Nat) (ad : Nat → Nat) (E : Nat → va_E) (b : Nat) (hb : b + 9 ≤ n) {ib : Nat → Int32} (hB : E b = ob 6 (rfs ad [b + 1, b + 2, b + 3, b + 4, b + 5, b + 6, b + 7, b + 8]) ib) {ss : Nat → Int32} (h6 : E (b + 6) = aI G 801 ss) {se : Nat → Int32} (h7 : E (b + 7) = aI G 801 se) {os : Nat → Int32} (h8 : E (b + 8) = aI G 801 os) {c : Nat} (hc : (ib 10).toInt = (c : Int)) (hS : STR c ss se os) {T : TST} (hcT : c = T.1) (hZ : ZR (c : Int) ss os T) (hok : okT 69300000 T) (w : Int32) (hw : 0 ≤ w.toInt ∧ w.toInt ≤ 69400000) : CtI l G yX6_lastAhead cX6_lastAhead 4 .int 1 21 (n) ad E [.ref (ad b), .int w] (fun r E' => (r.toInt = laT T w.toInt (T.1 + 1)) ∧ E = E') := by
  refine CtI.of (by decide) (Nat.le_of_ble_eq_true rfl) (fun X A C => ?_)
  refine v_sub (lv' := [(0, .ref (ad b)), (1, .int w)]) [0, 1] rfl ?_
  have hc8 := hS.1
  refine v_aload_n C 0 dX6_lastAhead_0 rfl rfl ?_
  refine v_geti (v := ib 10) C b dX6_lastAhead_1 fX6_47 (by omega) hB rfl rfl ?_
  refine v_istore_n (lv' := [(0, .ref (ad b)), (1, .int w), (2, .int (ib 10))]) C [1, 2, 0] dX6_lastAhead_4 rfl (by decide) rfl ?_
  have LP1 : ∀ (t : Nat) (d1 : Int) (y2 : Int32) (E3 : Nat → va_E), (y2.toInt = d1) → (∀ j, E3 j = E j) → (-1 ≤ d1) → (d1 ≤ (c : Int)) → (laT T w.toInt (T.1 + 1) = laT T w.toInt (d1 + 1).toNat) → d1 + 1 < (t : Int) → V X G A 4 (QI X G A (n) ad (fun r E' => (r.toInt = laT T w.toInt (T.1 + 1)) ∧ E = E')) (n) ad 0 0 E3 5 [(0, .ref (ad b)), (1, .int w), (2, .int y2)] [] := by
    intro t7
    induction t7 with
    | zero => intro d1 y2 E3 hy2 hfr4 hq5 hq6 hla hm9; exfalso; omega
    | succ t7 ih8 =>
      intro d1 y2 E3 hy2 hfr4 hq5 hq6 hla hm9
      have hE3_b := (hfr4 b ).trans hB
      have hE3_b6 := (hfr4 (b + 6) ).trans h6
      have hE3_b7 := (hfr4 (b + 7) ).trans h7
      have hE3_b8 := (hfr4 (b + 8) ).trans h8
      refine v_iload_n C 2 dX6_lastAhead_5 rfl rfl ?_
      refine b_if_lt C 47 dX6_lastAhead_6 (by decide) hy2 (fun c10 => ?_) (fun c10 => ?_)
      · refine v_iconst (v := (-1)) C dX6_lastAhead_47 (by decide) ?_
        have hEE : E3 = E := funext (fun j => hfr4 j)
        exact v_ret C dX6_lastAhead_48 rfl rfl ⟨(show (-1 : Int32).toInt = -1 by decide).trans (by rw [hla, show (d1 + 1).toNat = 0 by omega]; rfl), hEE.symm⟩
      · obtain ⟨j1, rfl⟩ : ∃ j : Nat, d1 = (j : Int) := ⟨d1.toNat, by omega⟩
        have hss := (show (ss j1).toInt = T.2.1 j1 from (hZ.2 j1 (by omega)).1)
        have hos := (show (os j1).toInt = T.2.2 j1 from (hZ.2 j1 (by omega)).2)
        have hse := STR_en hcT hZ hS (k := j1) (by omega)
        have hob := hok.2.2.2 j1 (by omega)
        have hsb := hok.2.1 j1 (by omega)
        have hen := en_60 (T := T) (k := j1)
        have hen0 := en_0 hok (k := j1) (by omega)
        refine v_aload_n C 0 dX6_lastAhead_9 rfl rfl ?_
        refine v_getr C b dX6_lastAhead_10 fX6_30 (by omega) hE3_b rfl rfl ?_
        refine v_iload_n C 2 dX6_lastAhead_13 rfl rfl ?_
        refine v_ald (v := se j1) C (b + 7) dX6_lastAhead_14 (by omega) hE3_b7 (ti_in hy2 (by omega) (by omega)) (by rw [ti_cl hy2, show Int.toNat (j1 : Int) = j1 by omega]) ?_
        refine v_iload_n C 1 dX6_lastAhead_15 rfl rfl ?_
        refine v_aload_n C 0 dX6_lastAhead_16 rfl rfl ?_
        refine v_getr C b dX6_lastAhead_17 fX6_33 (by omega) hE3_b rfl rfl ?_
        refine v_iload_n C 2 dX6_lastAhead_20 rfl rfl ?_
        refine v_ald (v := os j1) C (b + 8) dX6_lastAhead_21 (by omega) hE3_b8 (ti_in hy2 (by omega) (by omega)) (by rw [ti_cl hy2, show Int.toNat (j1 : Int) = j1 by omega]) ?_
        refine v_isub C dX6_lastAhead_22 ?_
        refine v_top (fun x11 ex11 => ?_)
        have hx11 : x11.toInt = (w.toInt - (T.2.2 j1)) := by rw [ex11]; exact ti_sub (rfl : Int32.toInt w = _) hos (by omega) (by omega)
        refine v_mmin C dX6_lastAhead_23 lX6_58 mJ9_min_7cf53.2.2.1 mJ9_min_7cf53.2.1 mJ9_min_7cf53.1 ⟨by decide, Nat.le_of_ble_eq_true rfl⟩ ⟨Nat.zero_le _, Nat.zero_le _⟩ ?_
        refine v_top (fun x12 ex12 => ?_)
        have hx12 : x12.toInt ≤ (enT T j1) ∧ x12.toInt ≤ (w.toInt - (T.2.2 j1)) ∧ (x12.toInt = (enT T j1) ∨ x12.toInt = (w.toInt - (T.2.2 j1))) := by rw [ex12]; exact mmin_b hse hx11
        have hmn : x12.toInt = mnI (w.toInt - T.2.2 j1) (enT T j1) := by unfold mnI; split <;> omega
        have hmb : -70000000 ≤ mnI (w.toInt - T.2.2 j1) (enT T j1) ∧ mnI (w.toInt - T.2.2 j1) (enT T j1) ≤ 70000000 := by unfold mnI; split <;> omega
        refine v_iconst (v := 1) C dX6_lastAhead_26 (by decide) ?_
        refine v_isub C dX6_lastAhead_27 ?_
        refine v_top (fun x13 ex13 => ?_)
        have hx13 : x13.toInt = ((mnI (w.toInt - T.2.2 j1) (enT T j1)) - 1) := by rw [ex13]; exact ti_sub hmn (show (1 : Int32).toInt = 1 by decide) (by omega) (by omega)
        refine v_istore_n (lv' := [(0, .ref (ad b)), (1, .int w), (2, .int y2), (3, .int x13)]) C [1, 2, 3, 0] dX6_lastAhead_28 rfl (by decide) rfl ?_
        refine v_iload_n C 3 dX6_lastAhead_29 rfl rfl ?_
        refine v_aload_n C 0 dX6_lastAhead_30 rfl rfl ?_
        refine v_getr C b dX6_lastAhead_31 fX6_27 (by omega) hE3_b rfl rfl ?_
        refine v_iload_n C 2 dX6_lastAhead_34 rfl rfl ?_
        refine v_ald (v := ss j1) C (b + 6) dX6_lastAhead_35 (by omega) hE3_b6 (ti_in hy2 (by omega) (by omega)) (by rw [ti_cl hy2, show Int.toNat (j1 : Int) = j1 by omega]) ?_
        refine b_icmp_lt C 41 dX6_lastAhead_36 (by decide) hx13 hss (fun c14 => ?_) (fun c14 => ?_)
        · obtain ⟨x15, ex15⟩ : ∃ y : Int32, y = y2 + (-1) := ⟨_, rfl⟩
          have hx15 : x15.toInt = ((j1 : Int) + (-1)) := by rw [ex15]; exact ti_add hy2 (show ((-1) : Int32).toInt = (-1) by decide) (by omega) (by omega)
          refine v_iinc (v := x15) (lv' := [(0, .ref (ad b)), (1, .int w), (2, .int x15), (3, .int x13)]) C 2 [1, 2, 0, 3] dX6_lastAhead_41 rfl (ex15.symm) (by decide) rfl ?_
          refine v_goto C 5 dX6_lastAhead_44 (by decide) ?_
          refine v_sub (lv' := [(0, .ref (ad b)), (1, .int w), (2, .int x15)]) [0, 1, 2] rfl ?_
          exact ih8 ((j1 : Int) + (-1)) x15 E3 hx15 (fun j => (hfr4 j )) (by omega) (by omega) (by rw [hla, show ((j1 : Int) + 1).toNat = j1 + 1 by omega, la_miss (x := mnI (w.toInt - T.2.2 j1) (enT T j1) - 1) rfl (by omega), show (((j1 : Int) + (-1)) + 1).toNat = j1 by omega]) (by omega)
        · refine v_iload_n C 3 dX6_lastAhead_39 rfl rfl ?_
          have hEE : E3 = E := funext (fun j => hfr4 j)
          exact v_ret C dX6_lastAhead_40 rfl rfl ⟨(by rw [hla, show ((j1 : Int) + 1).toNat = j1 + 1 by omega, la_hit (x := mnI (w.toInt - T.2.2 j1) (enT T j1) - 1) rfl (by omega)]; exact hx13), hEE.symm⟩
  exact LP1 100000 (c : Int) (ib 10) E hc (fun j => rfl) (by omega) (by omega) (by rw [show ((c : Int) + 1).toNat = T.1 + 1 by omega]) (by omega)

set_option maxRecDepth 20000 in
theorem z_turned (l : Launch) (G : Gl) (n : Nat) (ad : Nat → Nat) (E : Nat → va_E) (b : Nat) (hb : b + 9 ≤ n) {ib : Nat → Int32} (hB : E b = ob 6 (rfs ad [b + 1, b + 2, b + 3, b + 4, b + 5, b + 6, b + 7, b + 8]) ib) {ss : Nat → Int32} (h6 : E (b + 6) = aI G 801 ss) {se : Nat → Int32} (h7 : E (b + 7) = aI G 801 se) {os : Nat → Int32} (h8 : E (b + 8) = aI G 801 os) {c : Nat} (hc : (ib 10).toInt = (c : Int)) (hS : STR c ss se os) {T : TST} (hcT : c = T.1) (hZ : ZR (c : Int) ss os T) (hok : okT 69300000 T) (w : Int32) (y : Int32) (hw : 0 ≤ w.toInt ∧ w.toInt ≤ 69400000) (hy : y.toInt = 0 ∨ y.toInt = 1) : CtI l G yX6_turned cX6_turned 7 .int 2 45 (n) ad E [.ref (ad b), .int w, .int y] (fun r E' => (r.toInt = trT T w.toInt y.toInt) ∧ E = E') := by
  refine CtI.of (by decide) (Nat.le_of_ble_eq_true rfl) (fun X A C => ?_)
  refine v_sub (lv' := [(0, .ref (ad b)), (1, .int w), (2, .int y)]) [0, 1, 2] rfl ?_
  have hc8 := hS.1
  refine v_iconst (v := (-1)) C dX6_turned_0 (by decide) ?_
  refine v_istore_n (lv' := [(0, .ref (ad b)), (1, .int w), (2, .int y), (3, .int (-1))]) C [1, 2, 3, 0] dX6_turned_1 rfl (by decide) rfl ?_
  refine v_aload_n C 0 dX6_turned_2 rfl rfl ?_
  refine v_iload_n C 1 dX6_turned_3 rfl rfl ?_
  refine v_sipush (v := 720) C dX6_turned_4 (by decide) ?_
  refine v_isub C dX6_turned_7 ?_
  refine v_top (fun x1 ex1 => ?_)
  have hx1 : x1.toInt = (w.toInt - 720) := by rw [ex1]; exact ti_sub (rfl : Int32.toInt w = _) (show (720 : Int32).toInt = 720 by decide) (by omega) (by omega)
  refine v_cVp C dX6_turned_8 lX6_64 mX6_stretchAt b (by omega) hB (by decide) rfl (z_stretch l G n ad _ b hb hB h6 hc hS.1 (fun i j _ h1 h2 => STR_le hS h1 h2) x1) ⟨by decide, by decide⟩ rfl (Nat.le_of_ble_eq_true rfl) ⟨Nat.zero_le _, Nat.zero_le _⟩ (fun r2 hp3 => ?_)
  obtain ⟨j0, hj0, hST⟩ := hp3
  rw [hx1] at hST
  have hj0c := hST.1
  have hTJ := isST_T hcT hZ hST
  have hlow := hit_low hok hTJ
  refine v_istore (lv' := [(0, .ref (ad b)), (1, .int w), (2, .int y), (3, .int (-1)), (4, .int r2)]) C [1, 2, 3, 4, 0] dX6_turned_11 (by decide) rfl ?_
  refine v_iload C 4 dX6_turned_13 rfl ?_
  refine v_istore (lv' := [(0, .ref (ad b)), (1, .int w), (2, .int y), (3, .int (-1)), (4, .int r2), (5, .int r2)]) C [1, 2, 3, 4, 5, 0] dX6_turned_15 (by decide) rfl ?_
  have LP4 : ∀ (t : Nat) (f1 : Int) (y5 : Int32) (j1 : Nat) (y6 : Int32) (E7 : Nat → va_E), (y5.toInt = f1) → (y6.toInt = (j1 : Int)) → (∀ j, E7 j = E j) → (j0 ≤ j1) → (j1 ≤ c + 1) → (y.toInt = 1 → f1 = lhT T w.toInt j1) → (y.toInt = 0 → f1 = fhT T w.toInt j1) → (c : Int) + 1 - (j1 : Int) < (t : Int) → V X G A 7 (QI X G A (n) ad (fun r E' => (r.toInt = trT T w.toInt y.toInt) ∧ E = E')) (n) ad 0 0 E7 17 [(0, .ref (ad b)), (1, .int w), (2, .int y), (3, .int y5), (4, .int r2), (5, .int y6)] [] := by
    intro t11
    induction t11 with
    | zero => intro f1 y5 j1 y6 E7 hy5 hy6 hfr8 hq9 hq10 hL hF hm13; exfalso; omega
    | succ t11 ih12 =>
      intro f1 y5 j1 y6 E7 hy5 hy6 hfr8 hq9 hq10 hL hF hm13
      have hE7_b := (hfr8 b ).trans hB
      have hE7_b6 := (hfr8 (b + 6) ).trans h6
      have hE7_b7 := (hfr8 (b + 7) ).trans h7
      have hE7_b8 := (hfr8 (b + 8) ).trans h8
      refine v_iload C 5 dX6_turned_17 rfl ?_
      refine v_aload_n C 0 dX6_turned_19 rfl rfl ?_
      refine v_geti (v := ib 10) C b dX6_turned_20 fX6_47 (by omega) hE7_b rfl rfl ?_
      refine b_icmp_gt C 94 dX6_turned_23 (by decide) hy6 hc (fun c14 => ?_) (fun c14 => ?_)
      · have hj9 : j1 = T.1 + 1 := by omega
        have hL9 : y.toInt = 1 → f1 = lhT T w.toInt (T.1 + 1) := fun q => by rw [← hj9]; exact hL q
        have hF9 : y.toInt = 0 → f1 = fhT T w.toInt (T.1 + 1) := fun q => by rw [← hj9]; exact hF q
        refine v_iload_n C 3 dX6_turned_94 rfl rfl ?_
        refine v_iconst (v := (-1)) C dX6_turned_95 (by decide) ?_
        refine b_icmp_eq C 101 dX6_turned_96 (by decide) hy5 (show ((-1) : Int32).toInt = (-1) by decide) (fun c15 => ?_) (fun c15 => ?_)
        · refine v_iload_n C 2 dX6_turned_101 rfl rfl ?_
          refine b_if_eq C 113 dX6_turned_102 (by decide) (rfl : Int32.toInt y = _) (fun c16 => ?_) (fun c16 => ?_)
          · refine v_aload_n C 0 dX6_turned_113 rfl rfl ?_
            refine v_iload_n C 1 dX6_turned_114 rfl rfl ?_
            refine v_iload C 4 dX6_turned_115 rfl ?_
            refine v_cVp C dX6_turned_117 lX6_70 mX6_firstBehind b (by omega) hE7_b (by decide) rfl (z_firstBehind l G n ad _ b hb hE7_b hE7_b6 hE7_b7 hE7_b8 hc hS hcT hZ hok w r2 hw hj0 hj0c (ff_low hok (by omega) (fun i g1 g2 => by have := hTJ.2.1 i g1 g2; omega))) ⟨by decide, by decide⟩ rfl (Nat.le_of_ble_eq_true rfl) ⟨Nat.zero_le _, Nat.zero_le _⟩ (fun r17 hp18 => ?_)
            have hEE : E7 = E := funext (fun j => hfr8 j)
            exact v_ret C dX6_turned_120 rfl rfl ⟨hp18.trans (tr_ff (fh_lh hok (by have := hF9 (by omega); omega)) (by omega)).symm, hEE.symm⟩
          · refine v_aload_n C 0 dX6_turned_105 rfl rfl ?_
            refine v_iload_n C 1 dX6_turned_106 rfl rfl ?_
            refine v_cVp C dX6_turned_107 lX6_67 mX6_lastAhead b (by omega) hE7_b (by decide) rfl (z_lastAhead l G n ad _ b hb hE7_b hE7_b6 hE7_b7 hE7_b8 hc hS hcT hZ hok w hw) ⟨by decide, by decide⟩ rfl (Nat.le_of_ble_eq_true rfl) ⟨Nat.zero_le _, Nat.zero_le _⟩ (fun r19 hp20 => ?_)
            refine v_goto C 120 dX6_turned_110 (by decide) ?_
            have hEE : E7 = E := funext (fun j => hfr8 j)
            exact v_ret C dX6_turned_120 rfl rfl ⟨hp20.trans (tr_la (by have := hL9 (by omega); omega) (by omega)).symm, hEE.symm⟩
        · refine v_iload_n C 3 dX6_turned_99 rfl rfl ?_
          have hEE : E7 = E := funext (fun j => hfr8 j)
          exact v_ret C dX6_turned_100 rfl rfl ⟨(hy5).trans (tr_hit hok hL9 hF9 hy (by omega)).symm, hEE.symm⟩
      · have hss := (show (ss j1).toInt = T.2.1 j1 from (hZ.2 j1 (by omega)).1)
        have hos := (show (os j1).toInt = T.2.2 j1 from (hZ.2 j1 (by omega)).2)
        have hse := STR_en hcT hZ hS (k := j1) (by omega)
        have hob := hok.2.2.2 j1 (by omega)
        have hsb := hok.2.1 j1 (by omega)
        have hen := en_60 (T := T) (k := j1)
        have hen0 := en_0 hok (k := j1) (by omega)
        refine v_aload_n C 0 dX6_turned_26 rfl rfl ?_
        refine v_getr C b dX6_turned_27 fX6_27 (by omega) hE7_b rfl rfl ?_
        refine v_iload C 5 dX6_turned_30 rfl ?_
        refine v_ald (v := ss j1) C (b + 6) dX6_turned_32 (by omega) hE7_b6 (ti_in hy6 (by omega) (by omega)) (by rw [ti_cl hy6, show Int.toNat (j1 : Int) = j1 by omega]) ?_
        refine v_iload_n C 1 dX6_turned_33 rfl rfl ?_
        refine v_sipush (v := 720) C dX6_turned_34 (by decide) ?_
        refine v_iadd C dX6_turned_37 ?_
        refine v_top (fun x21 ex21 => ?_)
        have hx21 : x21.toInt = (w.toInt + 720) := by rw [ex21]; exact ti_add (rfl : Int32.toInt w = _) (show (720 : Int32).toInt = 720 by decide) (by omega) (by omega)
        refine b_icmp_gt C 94 dX6_turned_38 (by decide) hss hx21 (fun c22 => ?_) (fun c22 => ?_)
        · have h1j : 1 ≤ j1 := Nat.pos_of_ne_zero (fun e => by subst e; have := hok.1; omega)
          have hE9 := hit_end (T := T) (w := w.toInt) (j := j1) (by omega) (fun i g1 g2 => nohit_high hok h1j (by omega) g1 g2)
          have hL9 : y.toInt = 1 → f1 = lhT T w.toInt (T.1 + 1) := fun q => by rw [hE9.1]; exact hL q
          have hF9 : y.toInt = 0 → f1 = fhT T w.toInt (T.1 + 1) := fun q => by rw [hE9.2]; exact hF q
          refine v_iload_n C 3 dX6_turned_94 rfl rfl ?_
          refine v_iconst (v := (-1)) C dX6_turned_95 (by decide) ?_
          refine b_icmp_eq C 101 dX6_turned_96 (by decide) hy5 (show ((-1) : Int32).toInt = (-1) by decide) (fun c23 => ?_) (fun c23 => ?_)
          · refine v_iload_n C 2 dX6_turned_101 rfl rfl ?_
            refine b_if_eq C 113 dX6_turned_102 (by decide) (rfl : Int32.toInt y = _) (fun c24 => ?_) (fun c24 => ?_)
            · refine v_aload_n C 0 dX6_turned_113 rfl rfl ?_
              refine v_iload_n C 1 dX6_turned_114 rfl rfl ?_
              refine v_iload C 4 dX6_turned_115 rfl ?_
              refine v_cVp C dX6_turned_117 lX6_70 mX6_firstBehind b (by omega) hE7_b (by decide) rfl (z_firstBehind l G n ad _ b hb hE7_b hE7_b6 hE7_b7 hE7_b8 hc hS hcT hZ hok w r2 hw hj0 hj0c (ff_low hok (by omega) (fun i g1 g2 => by have := hTJ.2.1 i g1 g2; omega))) ⟨by decide, by decide⟩ rfl (Nat.le_of_ble_eq_true rfl) ⟨Nat.zero_le _, Nat.zero_le _⟩ (fun r25 hp26 => ?_)
              have hEE : E7 = E := funext (fun j => hfr8 j)
              exact v_ret C dX6_turned_120 rfl rfl ⟨hp26.trans (tr_ff (fh_lh hok (by have := hF9 (by omega); omega)) (by omega)).symm, hEE.symm⟩
            · refine v_aload_n C 0 dX6_turned_105 rfl rfl ?_
              refine v_iload_n C 1 dX6_turned_106 rfl rfl ?_
              refine v_cVp C dX6_turned_107 lX6_67 mX6_lastAhead b (by omega) hE7_b (by decide) rfl (z_lastAhead l G n ad _ b hb hE7_b hE7_b6 hE7_b7 hE7_b8 hc hS hcT hZ hok w hw) ⟨by decide, by decide⟩ rfl (Nat.le_of_ble_eq_true rfl) ⟨Nat.zero_le _, Nat.zero_le _⟩ (fun r27 hp28 => ?_)
              refine v_goto C 120 dX6_turned_110 (by decide) ?_
              have hEE : E7 = E := funext (fun j => hfr8 j)
              exact v_ret C dX6_turned_120 rfl rfl ⟨hp28.trans (tr_la (by have := hL9 (by omega); omega) (by omega)).symm, hEE.symm⟩
          · refine v_iload_n C 3 dX6_turned_99 rfl rfl ?_
            have hEE : E7 = E := funext (fun j => hfr8 j)
            exact v_ret C dX6_turned_100 rfl rfl ⟨(hy5).trans (tr_hit hok hL9 hF9 hy (by omega)).symm, hEE.symm⟩
        · refine v_iload_n C 1 dX6_turned_41 rfl rfl ?_
          refine v_aload_n C 0 dX6_turned_42 rfl rfl ?_
          refine v_getr C b dX6_turned_43 fX6_33 (by omega) hE7_b rfl rfl ?_
          refine v_iload C 5 dX6_turned_46 rfl ?_
          refine v_ald (v := os j1) C (b + 8) dX6_turned_48 (by omega) hE7_b8 (ti_in hy6 (by omega) (by omega)) (by rw [ti_cl hy6, show Int.toNat (j1 : Int) = j1 by omega]) ?_
          refine v_isub C dX6_turned_49 ?_
          refine v_top (fun x29 ex29 => ?_)
          have hx29 : x29.toInt = (w.toInt - (T.2.2 j1)) := by rw [ex29]; exact ti_sub (rfl : Int32.toInt w = _) hos (by omega) (by omega)
          refine v_istore (lv' := [(0, .ref (ad b)), (1, .int w), (2, .int y), (3, .int y5), (4, .int r2), (5, .int y6), (6, .int x29)]) C [1, 2, 3, 4, 5, 6, 0] dX6_turned_50 (by decide) rfl ?_
          refine v_iload C 6 dX6_turned_52 rfl ?_
          refine v_aload_n C 0 dX6_turned_54 rfl rfl ?_
          refine v_getr C b dX6_turned_55 fX6_27 (by omega) hE7_b rfl rfl ?_
          refine v_iload C 5 dX6_turned_58 rfl ?_
          refine v_ald (v := ss j1) C (b + 6) dX6_turned_60 (by omega) hE7_b6 (ti_in hy6 (by omega) (by omega)) (by rw [ti_cl hy6, show Int.toNat (j1 : Int) = j1 by omega]) ?_
          refine b_icmp_lt C 88 dX6_turned_61 (by decide) hx29 hss (fun c30 => ?_) (fun c30 => ?_)
          · obtain ⟨x31, ex31⟩ : ∃ y : Int32, y = y6 + 1 := ⟨_, rfl⟩
            have hx31 : x31.toInt = ((j1 : Int) + 1) := by rw [ex31]; exact ti_add hy6 (show (1 : Int32).toInt = 1 by decide) (by omega) (by omega)
            refine v_iinc (v := x31) (lv' := [(0, .ref (ad b)), (1, .int w), (2, .int y), (3, .int y5), (4, .int r2), (5, .int x31), (6, .int x29)]) C 5 [1, 2, 3, 4, 5, 0, 6] dX6_turned_88 rfl (ex31.symm) (by decide) rfl ?_
            refine v_goto C 17 dX6_turned_91 (by decide) ?_
            refine v_sub (lv' := [(0, .ref (ad b)), (1, .int w), (2, .int y), (3, .int y5), (4, .int r2), (5, .int x31)]) [0, 1, 2, 3, 4, 5] rfl ?_
            exact ih12 f1 y5 (j1 + 1) x31 E7 hy5 (show Int32.toInt x31 = ((j1 + 1 : Nat) : Int) by have := hx31; omega) (fun j => (hfr8 j )) (by omega) (by omega) (fun q => by rw [lh_neg (fun g => by have g1 := g.1; have g2 := g.2; omega)]; exact hL q) (fun q => by rw [fh_neg (fun g => by have g1 := g.1; have g2 := g.2; omega)]; exact hF q) (by omega)
          · refine v_iload C 6 dX6_turned_64 rfl ?_
            refine v_aload_n C 0 dX6_turned_66 rfl rfl ?_
            refine v_getr C b dX6_turned_67 fX6_30 (by omega) hE7_b rfl rfl ?_
            refine v_iload C 5 dX6_turned_70 rfl ?_
            refine v_ald (v := se j1) C (b + 7) dX6_turned_72 (by omega) hE7_b7 (ti_in hy6 (by omega) (by omega)) (by rw [ti_cl hy6, show Int.toNat (j1 : Int) = j1 by omega]) ?_
            refine b_icmp_ge C 88 dX6_turned_73 (by decide) hx29 hse (fun c32 => ?_) (fun c32 => ?_)
            · obtain ⟨x33, ex33⟩ : ∃ y : Int32, y = y6 + 1 := ⟨_, rfl⟩
              have hx33 : x33.toInt = ((j1 : Int) + 1) := by rw [ex33]; exact ti_add hy6 (show (1 : Int32).toInt = 1 by decide) (by omega) (by omega)
              refine v_iinc (v := x33) (lv' := [(0, .ref (ad b)), (1, .int w), (2, .int y), (3, .int y5), (4, .int r2), (5, .int x33), (6, .int x29)]) C 5 [1, 2, 3, 4, 5, 0, 6] dX6_turned_88 rfl (ex33.symm) (by decide) rfl ?_
              refine v_goto C 17 dX6_turned_91 (by decide) ?_
              refine v_sub (lv' := [(0, .ref (ad b)), (1, .int w), (2, .int y), (3, .int y5), (4, .int r2), (5, .int x33)]) [0, 1, 2, 3, 4, 5] rfl ?_
              exact ih12 f1 y5 (j1 + 1) x33 E7 hy5 (show Int32.toInt x33 = ((j1 + 1 : Nat) : Int) by have := hx33; omega) (fun j => (hfr8 j )) (by omega) (by omega) (fun q => by rw [lh_neg (fun g => by have g1 := g.1; have g2 := g.2; omega)]; exact hL q) (fun q => by rw [fh_neg (fun g => by have g1 := g.1; have g2 := g.2; omega)]; exact hF q) (by omega)
            · refine v_iload_n C 2 dX6_turned_76 rfl rfl ?_
              refine b_if_ne C 85 dX6_turned_77 (by decide) (rfl : Int32.toInt y = _) (fun c34 => ?_) (fun c34 => ?_)
              · refine v_iload C 6 dX6_turned_85 rfl ?_
                refine v_istore_n (lv' := [(0, .ref (ad b)), (1, .int w), (2, .int y), (3, .int x29), (4, .int r2), (5, .int y6), (6, .int x29)]) C [1, 2, 3, 0, 4, 5, 6] dX6_turned_87 rfl (by decide) rfl ?_
                obtain ⟨x35, ex35⟩ : ∃ y : Int32, y = y6 + 1 := ⟨_, rfl⟩
                have hx35 : x35.toInt = ((j1 : Int) + 1) := by rw [ex35]; exact ti_add hy6 (show (1 : Int32).toInt = 1 by decide) (by omega) (by omega)
                refine v_iinc (v := x35) (lv' := [(0, .ref (ad b)), (1, .int w), (2, .int y), (3, .int x29), (4, .int r2), (5, .int x35), (6, .int x29)]) C 5 [1, 2, 3, 4, 5, 0, 6] dX6_turned_88 rfl (ex35.symm) (by decide) rfl ?_
                refine v_goto C 17 dX6_turned_91 (by decide) ?_
                refine v_sub (lv' := [(0, .ref (ad b)), (1, .int w), (2, .int y), (3, .int x29), (4, .int r2), (5, .int x35)]) [0, 1, 2, 3, 4, 5] rfl ?_
                exact ih12 (w.toInt - (T.2.2 j1)) x29 (j1 + 1) x35 E7 hx29 (show Int32.toInt x35 = ((j1 + 1 : Nat) : Int) by have := hx35; omega) (fun j => (hfr8 j )) (by omega) (by omega) (fun q => (lh_pos ⟨by omega, by omega⟩).symm) (fun q => (fh_pos ⟨by omega, by omega⟩ (by rw [← hF q]; omega)).symm) (by omega)
              · refine v_iload_n C 3 dX6_turned_80 rfl rfl ?_
                refine v_iconst (v := (-1)) C dX6_turned_81 (by decide) ?_
                refine b_icmp_ne C 88 dX6_turned_82 (by decide) hy5 (show ((-1) : Int32).toInt = (-1) by decide) (fun c36 => ?_) (fun c36 => ?_)
                · obtain ⟨x37, ex37⟩ : ∃ y : Int32, y = y6 + 1 := ⟨_, rfl⟩
                  have hx37 : x37.toInt = ((j1 : Int) + 1) := by rw [ex37]; exact ti_add hy6 (show (1 : Int32).toInt = 1 by decide) (by omega) (by omega)
                  refine v_iinc (v := x37) (lv' := [(0, .ref (ad b)), (1, .int w), (2, .int y), (3, .int y5), (4, .int r2), (5, .int x37), (6, .int x29)]) C 5 [1, 2, 3, 4, 5, 0, 6] dX6_turned_88 rfl (ex37.symm) (by decide) rfl ?_
                  refine v_goto C 17 dX6_turned_91 (by decide) ?_
                  refine v_sub (lv' := [(0, .ref (ad b)), (1, .int w), (2, .int y), (3, .int y5), (4, .int r2), (5, .int x37)]) [0, 1, 2, 3, 4, 5] rfl ?_
                  exact ih12 f1 y5 (j1 + 1) x37 E7 hy5 (show Int32.toInt x37 = ((j1 + 1 : Nat) : Int) by have := hx37; omega) (fun j => (hfr8 j )) (by omega) (by omega) (fun q => absurd q (by omega)) (fun q => by rw [fh_stay (by rw [← hF q]; omega)]; exact hF q) (by omega)
                · refine v_iload C 6 dX6_turned_85 rfl ?_
                  refine v_istore_n (lv' := [(0, .ref (ad b)), (1, .int w), (2, .int y), (3, .int x29), (4, .int r2), (5, .int y6), (6, .int x29)]) C [1, 2, 3, 0, 4, 5, 6] dX6_turned_87 rfl (by decide) rfl ?_
                  obtain ⟨x38, ex38⟩ : ∃ y : Int32, y = y6 + 1 := ⟨_, rfl⟩
                  have hx38 : x38.toInt = ((j1 : Int) + 1) := by rw [ex38]; exact ti_add hy6 (show (1 : Int32).toInt = 1 by decide) (by omega) (by omega)
                  refine v_iinc (v := x38) (lv' := [(0, .ref (ad b)), (1, .int w), (2, .int y), (3, .int x29), (4, .int r2), (5, .int x38), (6, .int x29)]) C 5 [1, 2, 3, 4, 5, 0, 6] dX6_turned_88 rfl (ex38.symm) (by decide) rfl ?_
                  refine v_goto C 17 dX6_turned_91 (by decide) ?_
                  refine v_sub (lv' := [(0, .ref (ad b)), (1, .int w), (2, .int y), (3, .int x29), (4, .int r2), (5, .int x38)]) [0, 1, 2, 3, 4, 5] rfl ?_
                  exact ih12 (w.toInt - (T.2.2 j1)) x29 (j1 + 1) x38 E7 hx29 (show Int32.toInt x38 = ((j1 + 1 : Nat) : Int) by have := hx38; omega) (fun j => (hfr8 j )) (by omega) (by omega) (fun q => (lh_pos ⟨by omega, by omega⟩).symm) (fun q => (fh_pos ⟨by omega, by omega⟩ (by rw [← hF q]; omega)).symm) (by omega)
  exact LP4 100000 (-1) (-1) j0 r2 E (show ((-1) : Int32).toInt = (-1) by decide) (show Int32.toInt r2 = ((j0 : Nat) : Int) by have := hj0; omega) (fun j => rfl) (by omega) (by omega) (fun _ => hlow.1.symm) (fun _ => hlow.2.symm) (by omega)

