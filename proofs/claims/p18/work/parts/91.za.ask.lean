set_option maxRecDepth 20000 in
theorem z_stretch (l : Launch) (G : Gl) (n : Nat) (ad : Nat → Nat) (E : Nat → va_E) (b : Nat) (hb : b + 9 ≤ n) {ib : Nat → Int32} (hB : E b = ob 6 (rfs ad [b + 1, b + 2, b + 3, b + 4, b + 5, b + 6, b + 7, b + 8]) ib) {ss : Nat → Int32} (h6 : E (b + 6) = aI G 801 ss) {c : Nat} (hc : (ib 10).toInt = (c : Int)) (hc8 : c ≤ 800) (hmo : ∀ i j, 1 ≤ i → i ≤ j → j ≤ c → (ss i).toInt ≤ (ss j).toInt) (m : Int32) : CtI l G yX6_stretchAt cX6_stretchAt 4 .int 0 0 (n) ad E [.ref (ad b), .int m] (fun r E' => (∃ j : Nat, r.toInt = (j : Int) ∧ isST c ss m.toInt j) ∧ E = E') := by
  refine CtI.of (by decide) (Nat.le_of_ble_eq_true rfl) (fun X A C => ?_)
  refine v_sub (lv' := [(0, .ref (ad b)), (1, .int m)]) [0, 1] rfl ?_
  refine v_iconst (v := 0) C dX6_stretchAt_0 (by decide) ?_
  refine v_istore_n (lv' := [(0, .ref (ad b)), (1, .int m), (2, .int 0)]) C [1, 2, 0] dX6_stretchAt_1 rfl (by decide) rfl ?_
  refine v_sipush (v := 512) C dX6_stretchAt_2 (by decide) ?_
  refine v_istore_n (lv' := [(0, .ref (ad b)), (1, .int m), (2, .int 0), (3, .int 512)]) C [1, 2, 3, 0] dX6_stretchAt_5 rfl (by decide) rfl ?_
  have LP1 : ∀ (t : Nat) (a1 : Nat) (y2 : Int32) (q1 : Nat) (y3 : Int32) (E4 : Nat → va_E), (y2.toInt = (a1 : Int)) → (y3.toInt = (q1 : Int)) → (∀ j, E4 j = E j) → (a1 ≤ c) → (q1 = 512 ∨ q1 = 256 ∨ q1 = 128 ∨ q1 = 64 ∨ q1 = 32 ∨ q1 = 16 ∨ q1 = 8 ∨ q1 = 4 ∨ q1 = 2 ∨ q1 = 1 ∨ q1 = 0) → (∀ i, 1 ≤ i → i ≤ a1 → (ss i).toInt ≤ m.toInt) → (∀ i, a1 + 2 * q1 ≤ i → a1 < i → i ≤ c → m.toInt < (ss i).toInt) → (q1 : Int) < (t : Int) → V X G A 4 (QI X G A (n) ad (fun r E' => (∃ j : Nat, r.toInt = (j : Int) ∧ isST c ss m.toInt j) ∧ E = E')) (n) ad 0 0 E4 6 [(0, .ref (ad b)), (1, .int m), (2, .int y2), (3, .int y3)] [] := by
    intro t10
    induction t10 with
    | zero => intro a1 y2 q1 y3 E4 hy2 hy3 hfr5 hq6 hq7 hq8 hq9 hm12; exfalso; omega
    | succ t10 ih11 =>
      intro a1 y2 q1 y3 E4 hy2 hy3 hfr5 hq6 hq7 hq8 hq9 hm12
      have hE4_b := (hfr5 b ).trans hB
      have hE4_b6 := (hfr5 (b + 6) ).trans h6
      refine v_iload_n C 3 dX6_stretchAt_6 rfl rfl ?_
      refine b_if_le C 43 dX6_stretchAt_7 (by decide) hy3 (fun c13 => ?_) (fun c13 => ?_)
      · refine v_iload_n C 2 dX6_stretchAt_43 rfl rfl ?_
        have hEE : E4 = E := funext (fun j => hfr5 j)
        exact v_ret C dX6_stretchAt_44 rfl rfl ⟨⟨a1, hy2, by omega, hq8, fun i h1 h2 => hq9 i (by omega) h1 h2⟩, hEE.symm⟩
      · refine v_iload_n C 2 dX6_stretchAt_10 rfl rfl ?_
        refine v_iload_n C 3 dX6_stretchAt_11 rfl rfl ?_
        refine v_iadd C dX6_stretchAt_12 ?_
        refine v_top (fun x14 ex14 => ?_)
        have hx14 : x14.toInt = ((a1 : Int) + (q1 : Int)) := by rw [ex14]; exact ti_add hy2 hy3 (by omega) (by omega)
        refine v_aload_n C 0 dX6_stretchAt_13 rfl rfl ?_
        refine v_geti (v := ib 10) C b dX6_stretchAt_14 fX6_47 (by omega) hE4_b rfl rfl ?_
        refine b_icmp_gt C 36 dX6_stretchAt_17 (by decide) hx14 hc (fun c15 => ?_) (fun c15 => ?_)
        · refine v_iload_n C 3 dX6_stretchAt_36 rfl rfl ?_
          refine v_iconst (v := 1) C dX6_stretchAt_37 (by decide) ?_
          refine v_ishr C dX6_stretchAt_38 ?_
          refine v_top (fun x16 ex16 => ?_)
          have hx16 : x16.toInt = (q1 : Int) / 2 := by rw [ex16, ti_shr1, hy3]
          refine v_istore_n (lv' := [(0, .ref (ad b)), (1, .int m), (2, .int y2), (3, .int x16)]) C [1, 2, 3, 0] dX6_stretchAt_39 rfl (by decide) rfl ?_
          refine v_goto C 6 dX6_stretchAt_40 (by decide) ?_
          exact ih11 a1 y2 (q1 / 2) x16 E4 (show Int32.toInt y2 = ((a1 : Nat) : Int) by have := hy2; omega) (show Int32.toInt x16 = ((q1 / 2 : Nat) : Int) by have := hx16; omega) (fun j => (hfr5 j )) (by omega) (by omega) (hq8) (fun i h1 h2 h3 => by by_cases e : a1 + 2 * q1 ≤ i; (exact hq9 i e (by omega) h3); (have := hmo (a1 + q1) i (by omega) (by omega) h3; omega)) (by omega)
        · refine v_aload_n C 0 dX6_stretchAt_20 rfl rfl ?_
          refine v_getr C b dX6_stretchAt_21 fX6_27 (by omega) hE4_b rfl rfl ?_
          refine v_iload_n C 2 dX6_stretchAt_24 rfl rfl ?_
          refine v_iload_n C 3 dX6_stretchAt_25 rfl rfl ?_
          refine v_iadd C dX6_stretchAt_26 ?_
          refine v_top (fun x17 ex17 => ?_)
          have hx17 : x17.toInt = ((a1 : Int) + (q1 : Int)) := by rw [ex17]; exact ti_add hy2 hy3 (by omega) (by omega)
          refine v_ald (v := ss (a1 + q1)) C (b + 6) dX6_stretchAt_27 (by omega) hE4_b6 (ti_in hx17 (by omega) (by omega)) (by rw [ti_cl hx17, show Int.toNat ((a1 : Int) + (q1 : Int)) = a1 + q1 by omega]) ?_
          refine v_iload_n C 1 dX6_stretchAt_28 rfl rfl ?_
          refine b_icmp_gt C 36 dX6_stretchAt_29 (by decide) (rfl : Int32.toInt (ss (a1 + q1)) = _) (rfl : Int32.toInt m = _) (fun c18 => ?_) (fun c18 => ?_)
          · refine v_iload_n C 3 dX6_stretchAt_36 rfl rfl ?_
            refine v_iconst (v := 1) C dX6_stretchAt_37 (by decide) ?_
            refine v_ishr C dX6_stretchAt_38 ?_
            refine v_top (fun x19 ex19 => ?_)
            have hx19 : x19.toInt = (q1 : Int) / 2 := by rw [ex19, ti_shr1, hy3]
            refine v_istore_n (lv' := [(0, .ref (ad b)), (1, .int m), (2, .int y2), (3, .int x19)]) C [1, 2, 3, 0] dX6_stretchAt_39 rfl (by decide) rfl ?_
            refine v_goto C 6 dX6_stretchAt_40 (by decide) ?_
            exact ih11 a1 y2 (q1 / 2) x19 E4 (show Int32.toInt y2 = ((a1 : Nat) : Int) by have := hy2; omega) (show Int32.toInt x19 = ((q1 / 2 : Nat) : Int) by have := hx19; omega) (fun j => (hfr5 j )) (by omega) (by omega) (hq8) (fun i h1 h2 h3 => by by_cases e : a1 + 2 * q1 ≤ i; (exact hq9 i e (by omega) h3); (have := hmo (a1 + q1) i (by omega) (by omega) h3; omega)) (by omega)
          · refine v_iload_n C 2 dX6_stretchAt_32 rfl rfl ?_
            refine v_iload_n C 3 dX6_stretchAt_33 rfl rfl ?_
            refine v_iadd C dX6_stretchAt_34 ?_
            refine v_top (fun x20 ex20 => ?_)
            have hx20 : x20.toInt = ((a1 : Int) + (q1 : Int)) := by rw [ex20]; exact ti_add hy2 hy3 (by omega) (by omega)
            refine v_istore_n (lv' := [(0, .ref (ad b)), (1, .int m), (2, .int x20), (3, .int y3)]) C [1, 2, 0, 3] dX6_stretchAt_35 rfl (by decide) rfl ?_
            refine v_iload_n C 3 dX6_stretchAt_36 rfl rfl ?_
            refine v_iconst (v := 1) C dX6_stretchAt_37 (by decide) ?_
            refine v_ishr C dX6_stretchAt_38 ?_
            refine v_top (fun x21 ex21 => ?_)
            have hx21 : x21.toInt = (q1 : Int) / 2 := by rw [ex21, ti_shr1, hy3]
            refine v_istore_n (lv' := [(0, .ref (ad b)), (1, .int m), (2, .int x20), (3, .int x21)]) C [1, 2, 3, 0] dX6_stretchAt_39 rfl (by decide) rfl ?_
            refine v_goto C 6 dX6_stretchAt_40 (by decide) ?_
            exact ih11 (a1 + q1) x20 (q1 / 2) x21 E4 (show Int32.toInt x20 = ((a1 + q1 : Nat) : Int) by have := hx20; omega) (show Int32.toInt x21 = ((q1 / 2 : Nat) : Int) by have := hx21; omega) (fun j => (hfr5 j )) (by omega) (by omega) (fun i h1 h2 => by have := hmo i (a1 + q1) h1 h2 (by omega); omega) (fun i h1 h2 h3 => hq9 i (by omega) (by omega) h3) (by omega)
  exact LP1 100000 0 0 512 512 E (show Int32.toInt 0 = ((0 : Nat) : Int) by have := (show (0 : Int32).toInt = 0 by decide); omega) (show Int32.toInt 512 = ((512 : Nat) : Int) by have := (show (512 : Int32).toInt = 512 by decide); omega) (fun j => rfl) (by omega) (by omega) (fun i h1 h2 => absurd h2 (by omega)) (fun i h1 h2 h3 => absurd h3 (by omega)) (by omega)

set_option maxRecDepth 20000 in
theorem z_offset (l : Launch) (G : Gl) (n : Nat) (ad : Nat → Nat) (E : Nat → va_E) (b : Nat) (hb : b + 9 ≤ n) {ib : Nat → Int32} (hB : E b = ob 6 (rfs ad [b + 1, b + 2, b + 3, b + 4, b + 5, b + 6, b + 7, b + 8]) ib) {ss : Nat → Int32} (h6 : E (b + 6) = aI G 801 ss) {se : Nat → Int32} (h7 : E (b + 7) = aI G 801 se) {os : Nat → Int32} (h8 : E (b + 8) = aI G 801 os) {c : Nat} (hc : (ib 10).toInt = (c : Int)) (hS : STR c ss se os) (m : Int32) : CtI l G yX6_offsetAt cX6_offsetAt 2 .int 1 23 (n) ad E [.ref (ad b), .int m] (fun r E' => (∃ j : Nat, isST c ss m.toInt j ∧ r = os j) ∧ E = E') := by
  refine CtI.of (by decide) (Nat.le_of_ble_eq_true rfl) (fun X A C => ?_)
  refine v_sub (lv' := [(0, .ref (ad b)), (1, .int m)]) [0, 1] rfl ?_
  have hc8 := hS.1
  refine v_aload_n C 0 dX6_offsetAt_0 rfl rfl ?_
  refine v_getr C b dX6_offsetAt_1 fX6_33 (by omega) hB rfl rfl ?_
  refine v_aload_n C 0 dX6_offsetAt_4 rfl rfl ?_
  refine v_iload_n C 1 dX6_offsetAt_5 rfl rfl ?_
  refine v_cVp C dX6_offsetAt_6 lX6_64 mX6_stretchAt b (by omega) hB (by decide) rfl (z_stretch l G n ad _ b hb hB h6 hc hS.1 (fun i j _ h1 h2 => STR_le hS h1 h2) m) ⟨by decide, by decide⟩ rfl (Nat.le_of_ble_eq_true rfl) ⟨Nat.zero_le _, Nat.zero_le _⟩ (fun r1 hp2 => ?_)
  obtain ⟨j0, hj0, hST⟩ := hp2
  have hj0c := hST.1
  refine v_ald (v := os j0) C (b + 8) dX6_offsetAt_9 (by omega) h8 (ti_in hj0 (by omega) (by omega)) (by rw [ti_cl hj0, show Int.toNat (j0 : Int) = j0 by omega]) ?_
  exact v_ret C dX6_offsetAt_10 rfl rfl ⟨⟨j0, hST, rfl⟩, rfl⟩

set_option maxRecDepth 20000 in
theorem z_moments (l : Launch) (G : Gl) (n : Nat) (ad : Nat → Nat) (E : Nat → va_E) (b : Nat) (hb : b + 9 ≤ n) {ib : Nat → Int32} (hB : E b = ob 6 (rfs ad [b + 1, b + 2, b + 3, b + 4, b + 5, b + 6, b + 7, b + 8]) ib) {ss : Nat → Int32} (h6 : E (b + 6) = aI G 801 ss) {se : Nat → Int32} (h7 : E (b + 7) = aI G 801 se) {os : Nat → Int32} (h8 : E (b + 8) = aI G 801 os) {c : Nat} (hc : (ib 10).toInt = (c : Int)) (hS : STR c ss se os) (w : Int32) (hw : 0 ≤ w.toInt ∧ w.toInt ≤ 69400000) : CtI l G yX6_momentsOf cX6_momentsOf 5 .int 1 23 (n) ad E [.ref (ad b), .int w] (fun r E' => (r.toInt = (cntH ss se os w.toInt (c + 1) : Int)) ∧ E = E') := by
  refine CtI.of (by decide) (Nat.le_of_ble_eq_true rfl) (fun X A C => ?_)
  refine v_sub (lv' := [(0, .ref (ad b)), (1, .int w)]) [0, 1] rfl ?_
  have hc8 := hS.1
  refine v_iconst (v := 0) C dX6_momentsOf_0 (by decide) ?_
  refine v_istore_n (lv' := [(0, .ref (ad b)), (1, .int w), (2, .int 0)]) C [1, 2, 0] dX6_momentsOf_1 rfl (by decide) rfl ?_
  refine v_aload_n C 0 dX6_momentsOf_2 rfl rfl ?_
  refine v_iload_n C 1 dX6_momentsOf_3 rfl rfl ?_
  refine v_sipush (v := 720) C dX6_momentsOf_4 (by decide) ?_
  refine v_isub C dX6_momentsOf_7 ?_
  refine v_top (fun x1 ex1 => ?_)
  have hx1 : x1.toInt = (w.toInt - 720) := by rw [ex1]; exact ti_sub (rfl : Int32.toInt w = _) (show (720 : Int32).toInt = 720 by decide) (by omega) (by omega)
  refine v_cVp C dX6_momentsOf_8 lX6_64 mX6_stretchAt b (by omega) hB (by decide) rfl (z_stretch l G n ad _ b hb hB h6 hc hS.1 (fun i j _ h1 h2 => STR_le hS h1 h2) x1) ⟨by decide, by decide⟩ rfl (Nat.le_of_ble_eq_true rfl) ⟨Nat.zero_le _, Nat.zero_le _⟩ (fun r2 hp3 => ?_)
  obtain ⟨j0, hj0, hST⟩ := hp3
  rw [hx1] at hST
  have hj0c := hST.1
  refine v_istore_n (lv' := [(0, .ref (ad b)), (1, .int w), (2, .int 0), (3, .int r2)]) C [1, 2, 3, 0] dX6_momentsOf_11 rfl (by decide) rfl ?_
  have LP4 : ∀ (t : Nat) (n1 : Nat) (y5 : Int32) (j1 : Nat) (y6 : Int32) (E7 : Nat → va_E), (y5.toInt = (n1 : Int)) → (y6.toInt = (j1 : Int)) → (∀ j, E7 j = E j) → (j0 ≤ j1) → (j1 ≤ c + 1) → (n1 = cntH ss se os w.toInt j1) → (n1 ≤ j1) → (c : Int) + 1 - (j1 : Int) < (t : Int) → V X G A 5 (QI X G A (n) ad (fun r E' => (r.toInt = (cntH ss se os w.toInt (c + 1) : Int)) ∧ E = E')) (n) ad 0 0 E7 12 [(0, .ref (ad b)), (1, .int w), (2, .int y5), (3, .int y6)] [] := by
    intro t13
    induction t13 with
    | zero => intro n1 y5 j1 y6 E7 hy5 hy6 hfr8 hq9 hq10 hq11 hq12 hm15; exfalso; omega
    | succ t13 ih14 =>
      intro n1 y5 j1 y6 E7 hy5 hy6 hfr8 hq9 hq10 hq11 hq12 hm15
      have hE7_b := (hfr8 b ).trans hB
      have hE7_b6 := (hfr8 (b + 6) ).trans h6
      have hE7_b7 := (hfr8 (b + 7) ).trans h7
      have hE7_b8 := (hfr8 (b + 8) ).trans h8
      refine v_iload_n C 3 dX6_momentsOf_12 rfl rfl ?_
      have hob : (j1 : Int) ≤ (c : Int) → -720 ≤ (os j1).toInt ∧ (os j1).toInt ≤ 720 := fun q => hS.2.2.2.2.1 j1 (by omega)
      have hsb : (j1 : Int) ≤ (c : Int) → 0 ≤ (ss j1).toInt ∧ (ss j1).toInt ≤ 69400000 := fun q => hS.2.2.1 j1 (by omega)
      refine v_aload_n C 0 dX6_momentsOf_13 rfl rfl ?_
      refine v_geti (v := ib 10) C b dX6_momentsOf_14 fX6_47 (by omega) hE7_b rfl rfl ?_
      refine b_icmp_gt C 75 dX6_momentsOf_17 (by decide) hy6 hc (fun c16 => ?_) (fun c16 => ?_)
      · refine v_iload_n C 2 dX6_momentsOf_75 rfl rfl ?_
        have hEE : E7 = E := funext (fun j => hfr8 j)
        have hall : n1 = cntH ss se os w.toInt (c + 1) := by have q := hq11; rw [show j1 = c + 1 by omega] at q; exact q
        exact v_ret C dX6_momentsOf_76 rfl rfl ⟨(by rw [hy5, ← hall]), hEE.symm⟩
      · refine v_aload_n C 0 dX6_momentsOf_20 rfl rfl ?_
        refine v_getr C b dX6_momentsOf_21 fX6_27 (by omega) hE7_b rfl rfl ?_
        refine v_iload_n C 3 dX6_momentsOf_24 rfl rfl ?_
        refine v_ald (v := ss j1) C (b + 6) dX6_momentsOf_25 (by omega) hE7_b6 (ti_in hy6 (by omega) (by omega)) (by rw [ti_cl hy6, show Int.toNat (j1 : Int) = j1 by omega]) ?_
        refine v_iload_n C 1 dX6_momentsOf_26 rfl rfl ?_
        refine v_sipush (v := 720) C dX6_momentsOf_27 (by decide) ?_
        refine v_iadd C dX6_momentsOf_30 ?_
        refine v_top (fun x17 ex17 => ?_)
        have hx17 : x17.toInt = (w.toInt + 720) := by rw [ex17]; exact ti_add (rfl : Int32.toInt w = _) (show (720 : Int32).toInt = 720 by decide) (by omega) (by omega)
        refine b_icmp_gt C 75 dX6_momentsOf_31 (by decide) (rfl : Int32.toInt (ss j1) = _) hx17 (fun c18 => ?_) (fun c18 => ?_)
        · refine v_iload_n C 2 dX6_momentsOf_75 rfl rfl ?_
          have hEE : E7 = E := funext (fun j => hfr8 j)
          have hall : n1 = cntH ss se os w.toInt (c + 1) := by rw [show c + 1 = j1 + (c + 1 - j1) by omega, cntH_skip (c + 1 - j1) (fun i h1 h2 => no_hit_high hS (j := j1) (by omega) h1 (by omega))]; exact hq11
          exact v_ret C dX6_momentsOf_76 rfl rfl ⟨(by rw [hy5, ← hall]), hEE.symm⟩
        · refine v_iload_n C 1 dX6_momentsOf_34 rfl rfl ?_
          refine v_aload_n C 0 dX6_momentsOf_35 rfl rfl ?_
          refine v_getr C b dX6_momentsOf_36 fX6_33 (by omega) hE7_b rfl rfl ?_
          refine v_iload_n C 3 dX6_momentsOf_39 rfl rfl ?_
          refine v_ald (v := os j1) C (b + 8) dX6_momentsOf_40 (by omega) hE7_b8 (ti_in hy6 (by omega) (by omega)) (by rw [ti_cl hy6, show Int.toNat (j1 : Int) = j1 by omega]) ?_
          refine v_isub C dX6_momentsOf_41 ?_
          refine v_top (fun x19 ex19 => ?_)
          have hx19 : x19.toInt = (w.toInt - (os j1).toInt) := by rw [ex19]; exact ti_sub (rfl : Int32.toInt w = _) (rfl : Int32.toInt (os j1) = _) (by omega) (by omega)
          refine v_istore (lv' := [(0, .ref (ad b)), (1, .int w), (2, .int y5), (3, .int y6), (4, .int x19)]) C [1, 2, 3, 4, 0] dX6_momentsOf_42 (by decide) rfl ?_
          refine v_iload C 4 dX6_momentsOf_44 rfl ?_
          refine v_aload_n C 0 dX6_momentsOf_46 rfl rfl ?_
          refine v_getr C b dX6_momentsOf_47 fX6_27 (by omega) hE7_b rfl rfl ?_
          refine v_iload_n C 3 dX6_momentsOf_50 rfl rfl ?_
          refine v_ald (v := ss j1) C (b + 6) dX6_momentsOf_51 (by omega) hE7_b6 (ti_in hy6 (by omega) (by omega)) (by rw [ti_cl hy6, show Int.toNat (j1 : Int) = j1 by omega]) ?_
          refine b_icmp_lt C 69 dX6_momentsOf_52 (by decide) hx19 (rfl : Int32.toInt (ss j1) = _) (fun c20 => ?_) (fun c20 => ?_)
          · obtain ⟨x21, ex21⟩ : ∃ y : Int32, y = y6 + 1 := ⟨_, rfl⟩
            have hx21 : x21.toInt = ((j1 : Int) + 1) := by rw [ex21]; exact ti_add hy6 (show (1 : Int32).toInt = 1 by decide) (by omega) (by omega)
            refine v_iinc (v := x21) (lv' := [(0, .ref (ad b)), (1, .int w), (2, .int y5), (3, .int x21), (4, .int x19)]) C 3 [1, 2, 3, 0, 4] dX6_momentsOf_69 rfl (ex21.symm) (by decide) rfl ?_
            refine v_goto C 12 dX6_momentsOf_72 (by decide) ?_
            refine v_sub (lv' := [(0, .ref (ad b)), (1, .int w), (2, .int y5), (3, .int x21)]) [0, 1, 2, 3] rfl ?_
            exact ih14 n1 y5 (j1 + 1) x21 E7 (show Int32.toInt y5 = ((n1 : Nat) : Int) by have := hy5; omega) (show Int32.toInt x21 = ((j1 + 1 : Nat) : Int) by have := hx21; omega) (fun j => (hfr8 j )) (by omega) (by omega) (by show n1 = (if (ss j1).toInt ≤ w.toInt - (os j1).toInt ∧ w.toInt - (os j1).toInt < (se j1).toInt then cntH ss se os w.toInt j1 + 1 else cntH ss se os w.toInt j1); rw [if_neg (by omega)]; omega) (by omega) (by omega)
          · refine v_iload C 4 dX6_momentsOf_55 rfl ?_
            refine v_aload_n C 0 dX6_momentsOf_57 rfl rfl ?_
            refine v_getr C b dX6_momentsOf_58 fX6_30 (by omega) hE7_b rfl rfl ?_
            refine v_iload_n C 3 dX6_momentsOf_61 rfl rfl ?_
            refine v_ald (v := se j1) C (b + 7) dX6_momentsOf_62 (by omega) hE7_b7 (ti_in hy6 (by omega) (by omega)) (by rw [ti_cl hy6, show Int.toNat (j1 : Int) = j1 by omega]) ?_
            refine b_icmp_ge C 69 dX6_momentsOf_63 (by decide) hx19 (rfl : Int32.toInt (se j1) = _) (fun c22 => ?_) (fun c22 => ?_)
            · obtain ⟨x23, ex23⟩ : ∃ y : Int32, y = y6 + 1 := ⟨_, rfl⟩
              have hx23 : x23.toInt = ((j1 : Int) + 1) := by rw [ex23]; exact ti_add hy6 (show (1 : Int32).toInt = 1 by decide) (by omega) (by omega)
              refine v_iinc (v := x23) (lv' := [(0, .ref (ad b)), (1, .int w), (2, .int y5), (3, .int x23), (4, .int x19)]) C 3 [1, 2, 3, 0, 4] dX6_momentsOf_69 rfl (ex23.symm) (by decide) rfl ?_
              refine v_goto C 12 dX6_momentsOf_72 (by decide) ?_
              refine v_sub (lv' := [(0, .ref (ad b)), (1, .int w), (2, .int y5), (3, .int x23)]) [0, 1, 2, 3] rfl ?_
              exact ih14 n1 y5 (j1 + 1) x23 E7 (show Int32.toInt y5 = ((n1 : Nat) : Int) by have := hy5; omega) (show Int32.toInt x23 = ((j1 + 1 : Nat) : Int) by have := hx23; omega) (fun j => (hfr8 j )) (by omega) (by omega) (by show n1 = (if (ss j1).toInt ≤ w.toInt - (os j1).toInt ∧ w.toInt - (os j1).toInt < (se j1).toInt then cntH ss se os w.toInt j1 + 1 else cntH ss se os w.toInt j1); rw [if_neg (by omega)]; omega) (by omega) (by omega)
            · obtain ⟨x24, ex24⟩ : ∃ y : Int32, y = y5 + 1 := ⟨_, rfl⟩
              have hx24 : x24.toInt = ((n1 : Int) + 1) := by rw [ex24]; exact ti_add hy5 (show (1 : Int32).toInt = 1 by decide) (by omega) (by omega)
              refine v_iinc (v := x24) (lv' := [(0, .ref (ad b)), (1, .int w), (2, .int x24), (3, .int y6), (4, .int x19)]) C 2 [1, 2, 0, 3, 4] dX6_momentsOf_66 rfl (ex24.symm) (by decide) rfl ?_
              obtain ⟨x25, ex25⟩ : ∃ y : Int32, y = y6 + 1 := ⟨_, rfl⟩
              have hx25 : x25.toInt = ((j1 : Int) + 1) := by rw [ex25]; exact ti_add hy6 (show (1 : Int32).toInt = 1 by decide) (by omega) (by omega)
              refine v_iinc (v := x25) (lv' := [(0, .ref (ad b)), (1, .int w), (2, .int x24), (3, .int x25), (4, .int x19)]) C 3 [1, 2, 3, 0, 4] dX6_momentsOf_69 rfl (ex25.symm) (by decide) rfl ?_
              refine v_goto C 12 dX6_momentsOf_72 (by decide) ?_
              refine v_sub (lv' := [(0, .ref (ad b)), (1, .int w), (2, .int x24), (3, .int x25)]) [0, 1, 2, 3] rfl ?_
              exact ih14 (n1 + 1) x24 (j1 + 1) x25 E7 (show Int32.toInt x24 = ((n1 + 1 : Nat) : Int) by have := hx24; omega) (show Int32.toInt x25 = ((j1 + 1 : Nat) : Int) by have := hx25; omega) (fun j => (hfr8 j )) (by omega) (by omega) (by show n1 + 1 = (if (ss j1).toInt ≤ w.toInt - (os j1).toInt ∧ w.toInt - (os j1).toInt < (se j1).toInt then cntH ss se os w.toInt j1 + 1 else cntH ss se os w.toInt j1); rw [if_pos (by omega)]; omega) (by omega) (by omega)
  exact LP4 100000 0 0 j0 r2 E (show Int32.toInt 0 = ((0 : Nat) : Int) by have := (show (0 : Int32).toInt = 0 by decide); omega) (show Int32.toInt r2 = ((j0 : Nat) : Int) by have := hj0; omega) (fun j => rfl) (by omega) (by omega) (by rw [show j0 = 0 + j0 by omega, cntH_skip j0 (fun i _ h2 => no_hit_low hS hST (by omega))]; rfl) (by omega) (by omega)

set_option maxRecDepth 20000 in
theorem z_moment (l : Launch) (G : Gl) (n : Nat) (ad : Nat → Nat) (E : Nat → va_E) (b : Nat) (hb : b + 9 ≤ n) {ib : Nat → Int32} (hB : E b = ob 6 (rfs ad [b + 1, b + 2, b + 3, b + 4, b + 5, b + 6, b + 7, b + 8]) ib) {ss : Nat → Int32} (h6 : E (b + 6) = aI G 801 ss) {se : Nat → Int32} (h7 : E (b + 7) = aI G 801 se) {os : Nat → Int32} (h8 : E (b + 8) = aI G 801 os) {c : Nat} (hc : (ib 10).toInt = (c : Int)) (hS : STR c ss se os) (w : Int32) (i : Int32) (hw : 0 ≤ w.toInt ∧ w.toInt ≤ 69400000) : CtI l G yX6_momentOf cX6_momentOf 6 .int 1 23 (n) ad E [.ref (ad b), .int w, .int i] (fun r E' => ((∃ k : Nat, k ≤ c ∧ hitS ss se os w.toInt k ∧ (cntH ss se os w.toInt k : Int) = i.toInt ∧ r.toInt = w.toInt - (os k).toInt) ∨ (¬ (0 ≤ i.toInt ∧ i.toInt < (cntH ss se os w.toInt (c + 1) : Int)) ∧ r.toInt = -1)) ∧ E = E') := by
  refine CtI.of (by decide) (Nat.le_of_ble_eq_true rfl) (fun X A C => ?_)
  refine v_sub (lv' := [(0, .ref (ad b)), (1, .int w), (2, .int i)]) [0, 1, 2] rfl ?_
  have hc8 := hS.1
  refine v_iconst (v := 0) C dX6_momentOf_0 (by decide) ?_
  refine v_istore_n (lv' := [(0, .ref (ad b)), (1, .int w), (2, .int i), (3, .int 0)]) C [1, 2, 3, 0] dX6_momentOf_1 rfl (by decide) rfl ?_
  refine v_aload_n C 0 dX6_momentOf_2 rfl rfl ?_
  refine v_iload_n C 1 dX6_momentOf_3 rfl rfl ?_
  refine v_sipush (v := 720) C dX6_momentOf_4 (by decide) ?_
  refine v_isub C dX6_momentOf_7 ?_
  refine v_top (fun x1 ex1 => ?_)
  have hx1 : x1.toInt = (w.toInt - 720) := by rw [ex1]; exact ti_sub (rfl : Int32.toInt w = _) (show (720 : Int32).toInt = 720 by decide) (by omega) (by omega)
  refine v_cVp C dX6_momentOf_8 lX6_64 mX6_stretchAt b (by omega) hB (by decide) rfl (z_stretch l G n ad _ b hb hB h6 hc hS.1 (fun i j _ h1 h2 => STR_le hS h1 h2) x1) ⟨by decide, by decide⟩ rfl (Nat.le_of_ble_eq_true rfl) ⟨Nat.zero_le _, Nat.zero_le _⟩ (fun r2 hp3 => ?_)
  obtain ⟨j0, hj0, hST⟩ := hp3
  rw [hx1] at hST
  have hj0c := hST.1
  refine v_istore (lv' := [(0, .ref (ad b)), (1, .int w), (2, .int i), (3, .int 0), (4, .int r2)]) C [1, 2, 3, 4, 0] dX6_momentOf_11 (by decide) rfl ?_
  have LP4 : ∀ (t : Nat) (n1 : Nat) (y5 : Int32) (j1 : Nat) (y6 : Int32) (E7 : Nat → va_E), (y5.toInt = (n1 : Int)) → (y6.toInt = (j1 : Int)) → (∀ j, E7 j = E j) → (j0 ≤ j1) → (j1 ≤ c + 1) → (n1 = cntH ss se os w.toInt j1) → (n1 ≤ j1) → (¬ (0 ≤ i.toInt ∧ i.toInt < (n1 : Int))) → (c : Int) + 1 - (j1 : Int) < (t : Int) → V X G A 6 (QI X G A (n) ad (fun r E' => ((∃ k : Nat, k ≤ c ∧ hitS ss se os w.toInt k ∧ (cntH ss se os w.toInt k : Int) = i.toInt ∧ r.toInt = w.toInt - (os k).toInt) ∨ (¬ (0 ≤ i.toInt ∧ i.toInt < (cntH ss se os w.toInt (c + 1) : Int)) ∧ r.toInt = -1)) ∧ E = E')) (n) ad 0 0 E7 13 [(0, .ref (ad b)), (1, .int w), (2, .int i), (3, .int y5), (4, .int y6)] [] := by
    intro t14
    induction t14 with
    | zero => intro n1 y5 j1 y6 E7 hy5 hy6 hfr8 hq9 hq10 hq11 hq12 hq13 hm16; exfalso; omega
    | succ t14 ih15 =>
      intro n1 y5 j1 y6 E7 hy5 hy6 hfr8 hq9 hq10 hq11 hq12 hq13 hm16
      have hE7_b := (hfr8 b ).trans hB
      have hE7_b6 := (hfr8 (b + 6) ).trans h6
      have hE7_b7 := (hfr8 (b + 7) ).trans h7
      have hE7_b8 := (hfr8 (b + 8) ).trans h8
      refine v_iload C 4 dX6_momentOf_13 rfl ?_
      have hob : (j1 : Int) ≤ (c : Int) → -720 ≤ (os j1).toInt ∧ (os j1).toInt ≤ 720 := fun q => hS.2.2.2.2.1 j1 (by omega)
      have hsb : (j1 : Int) ≤ (c : Int) → 0 ≤ (ss j1).toInt ∧ (ss j1).toInt ≤ 69400000 := fun q => hS.2.2.1 j1 (by omega)
      refine v_aload_n C 0 dX6_momentOf_15 rfl rfl ?_
      refine v_geti (v := ib 10) C b dX6_momentOf_16 fX6_47 (by omega) hE7_b rfl rfl ?_
      refine b_icmp_gt C 89 dX6_momentOf_19 (by decide) hy6 hc (fun c17 => ?_) (fun c17 => ?_)
      · refine v_iconst (v := (-1)) C dX6_momentOf_89 (by decide) ?_
        have hEE : E7 = E := funext (fun j => hfr8 j)
        have hall : n1 = cntH ss se os w.toInt (c + 1) := by have q := hq11; rw [show j1 = c + 1 by omega] at q; exact q
        exact v_ret C dX6_momentOf_90 rfl rfl ⟨Or.inr ⟨by omega, by decide⟩, hEE.symm⟩
      · refine v_aload_n C 0 dX6_momentOf_22 rfl rfl ?_
        refine v_getr C b dX6_momentOf_23 fX6_27 (by omega) hE7_b rfl rfl ?_
        refine v_iload C 4 dX6_momentOf_26 rfl ?_
        refine v_ald (v := ss j1) C (b + 6) dX6_momentOf_28 (by omega) hE7_b6 (ti_in hy6 (by omega) (by omega)) (by rw [ti_cl hy6, show Int.toNat (j1 : Int) = j1 by omega]) ?_
        refine v_iload_n C 1 dX6_momentOf_29 rfl rfl ?_
        refine v_sipush (v := 720) C dX6_momentOf_30 (by decide) ?_
        refine v_iadd C dX6_momentOf_33 ?_
        refine v_top (fun x18 ex18 => ?_)
        have hx18 : x18.toInt = (w.toInt + 720) := by rw [ex18]; exact ti_add (rfl : Int32.toInt w = _) (show (720 : Int32).toInt = 720 by decide) (by omega) (by omega)
        refine b_icmp_gt C 89 dX6_momentOf_34 (by decide) (rfl : Int32.toInt (ss j1) = _) hx18 (fun c19 => ?_) (fun c19 => ?_)
        · refine v_iconst (v := (-1)) C dX6_momentOf_89 (by decide) ?_
          have hEE : E7 = E := funext (fun j => hfr8 j)
          have hall : n1 = cntH ss se os w.toInt (c + 1) := by rw [show c + 1 = j1 + (c + 1 - j1) by omega, cntH_skip (c + 1 - j1) (fun i h1 h2 => no_hit_high hS (j := j1) (by omega) h1 (by omega))]; exact hq11
          exact v_ret C dX6_momentOf_90 rfl rfl ⟨Or.inr ⟨by omega, by decide⟩, hEE.symm⟩
        · refine v_iload_n C 1 dX6_momentOf_37 rfl rfl ?_
          refine v_aload_n C 0 dX6_momentOf_38 rfl rfl ?_
          refine v_getr C b dX6_momentOf_39 fX6_33 (by omega) hE7_b rfl rfl ?_
          refine v_iload C 4 dX6_momentOf_42 rfl ?_
          refine v_ald (v := os j1) C (b + 8) dX6_momentOf_44 (by omega) hE7_b8 (ti_in hy6 (by omega) (by omega)) (by rw [ti_cl hy6, show Int.toNat (j1 : Int) = j1 by omega]) ?_
          refine v_isub C dX6_momentOf_45 ?_
          refine v_top (fun x20 ex20 => ?_)
          have hx20 : x20.toInt = (w.toInt - (os j1).toInt) := by rw [ex20]; exact ti_sub (rfl : Int32.toInt w = _) (rfl : Int32.toInt (os j1) = _) (by omega) (by omega)
          refine v_istore (lv' := [(0, .ref (ad b)), (1, .int w), (2, .int i), (3, .int y5), (4, .int y6), (5, .int x20)]) C [1, 2, 3, 4, 5, 0] dX6_momentOf_46 (by decide) rfl ?_
          refine v_iload C 5 dX6_momentOf_48 rfl ?_
          refine v_aload_n C 0 dX6_momentOf_50 rfl rfl ?_
          refine v_getr C b dX6_momentOf_51 fX6_27 (by omega) hE7_b rfl rfl ?_
          refine v_iload C 4 dX6_momentOf_54 rfl ?_
          refine v_ald (v := ss j1) C (b + 6) dX6_momentOf_56 (by omega) hE7_b6 (ti_in hy6 (by omega) (by omega)) (by rw [ti_cl hy6, show Int.toNat (j1 : Int) = j1 by omega]) ?_
          refine b_icmp_lt C 83 dX6_momentOf_57 (by decide) hx20 (rfl : Int32.toInt (ss j1) = _) (fun c21 => ?_) (fun c21 => ?_)
          · obtain ⟨x22, ex22⟩ : ∃ y : Int32, y = y6 + 1 := ⟨_, rfl⟩
            have hx22 : x22.toInt = ((j1 : Int) + 1) := by rw [ex22]; exact ti_add hy6 (show (1 : Int32).toInt = 1 by decide) (by omega) (by omega)
            refine v_iinc (v := x22) (lv' := [(0, .ref (ad b)), (1, .int w), (2, .int i), (3, .int y5), (4, .int x22), (5, .int x20)]) C 4 [1, 2, 3, 4, 0, 5] dX6_momentOf_83 rfl (ex22.symm) (by decide) rfl ?_
            refine v_goto C 13 dX6_momentOf_86 (by decide) ?_
            refine v_sub (lv' := [(0, .ref (ad b)), (1, .int w), (2, .int i), (3, .int y5), (4, .int x22)]) [0, 1, 2, 3, 4] rfl ?_
            exact ih15 n1 y5 (j1 + 1) x22 E7 (show Int32.toInt y5 = ((n1 : Nat) : Int) by have := hy5; omega) (show Int32.toInt x22 = ((j1 + 1 : Nat) : Int) by have := hx22; omega) (fun j => (hfr8 j )) (by omega) (by omega) (by show n1 = (if (ss j1).toInt ≤ w.toInt - (os j1).toInt ∧ w.toInt - (os j1).toInt < (se j1).toInt then cntH ss se os w.toInt j1 + 1 else cntH ss se os w.toInt j1); rw [if_neg (by omega)]; omega) (by omega) (by omega) (by omega)
          · refine v_iload C 5 dX6_momentOf_60 rfl ?_
            refine v_aload_n C 0 dX6_momentOf_62 rfl rfl ?_
            refine v_getr C b dX6_momentOf_63 fX6_30 (by omega) hE7_b rfl rfl ?_
            refine v_iload C 4 dX6_momentOf_66 rfl ?_
            refine v_ald (v := se j1) C (b + 7) dX6_momentOf_68 (by omega) hE7_b7 (ti_in hy6 (by omega) (by omega)) (by rw [ti_cl hy6, show Int.toNat (j1 : Int) = j1 by omega]) ?_
            refine b_icmp_ge C 83 dX6_momentOf_69 (by decide) hx20 (rfl : Int32.toInt (se j1) = _) (fun c23 => ?_) (fun c23 => ?_)
            · obtain ⟨x24, ex24⟩ : ∃ y : Int32, y = y6 + 1 := ⟨_, rfl⟩
              have hx24 : x24.toInt = ((j1 : Int) + 1) := by rw [ex24]; exact ti_add hy6 (show (1 : Int32).toInt = 1 by decide) (by omega) (by omega)
              refine v_iinc (v := x24) (lv' := [(0, .ref (ad b)), (1, .int w), (2, .int i), (3, .int y5), (4, .int x24), (5, .int x20)]) C 4 [1, 2, 3, 4, 0, 5] dX6_momentOf_83 rfl (ex24.symm) (by decide) rfl ?_
              refine v_goto C 13 dX6_momentOf_86 (by decide) ?_
              refine v_sub (lv' := [(0, .ref (ad b)), (1, .int w), (2, .int i), (3, .int y5), (4, .int x24)]) [0, 1, 2, 3, 4] rfl ?_
              exact ih15 n1 y5 (j1 + 1) x24 E7 (show Int32.toInt y5 = ((n1 : Nat) : Int) by have := hy5; omega) (show Int32.toInt x24 = ((j1 + 1 : Nat) : Int) by have := hx24; omega) (fun j => (hfr8 j )) (by omega) (by omega) (by show n1 = (if (ss j1).toInt ≤ w.toInt - (os j1).toInt ∧ w.toInt - (os j1).toInt < (se j1).toInt then cntH ss se os w.toInt j1 + 1 else cntH ss se os w.toInt j1); rw [if_neg (by omega)]; omega) (by omega) (by omega) (by omega)
            · refine v_iload_n C 3 dX6_momentOf_72 rfl rfl ?_
              refine v_iload_n C 2 dX6_momentOf_73 rfl rfl ?_
              refine b_icmp_ne C 80 dX6_momentOf_74 (by decide) hy5 (rfl : Int32.toInt i = _) (fun c25 => ?_) (fun c25 => ?_)
              · obtain ⟨x26, ex26⟩ : ∃ y : Int32, y = y5 + 1 := ⟨_, rfl⟩
                have hx26 : x26.toInt = ((n1 : Int) + 1) := by rw [ex26]; exact ti_add hy5 (show (1 : Int32).toInt = 1 by decide) (by omega) (by omega)
                refine v_iinc (v := x26) (lv' := [(0, .ref (ad b)), (1, .int w), (2, .int i), (3, .int x26), (4, .int y6), (5, .int x20)]) C 3 [1, 2, 3, 0, 4, 5] dX6_momentOf_80 rfl (ex26.symm) (by decide) rfl ?_
                obtain ⟨x27, ex27⟩ : ∃ y : Int32, y = y6 + 1 := ⟨_, rfl⟩
                have hx27 : x27.toInt = ((j1 : Int) + 1) := by rw [ex27]; exact ti_add hy6 (show (1 : Int32).toInt = 1 by decide) (by omega) (by omega)
                refine v_iinc (v := x27) (lv' := [(0, .ref (ad b)), (1, .int w), (2, .int i), (3, .int x26), (4, .int x27), (5, .int x20)]) C 4 [1, 2, 3, 4, 0, 5] dX6_momentOf_83 rfl (ex27.symm) (by decide) rfl ?_
                refine v_goto C 13 dX6_momentOf_86 (by decide) ?_
                refine v_sub (lv' := [(0, .ref (ad b)), (1, .int w), (2, .int i), (3, .int x26), (4, .int x27)]) [0, 1, 2, 3, 4] rfl ?_
                exact ih15 (n1 + 1) x26 (j1 + 1) x27 E7 (show Int32.toInt x26 = ((n1 + 1 : Nat) : Int) by have := hx26; omega) (show Int32.toInt x27 = ((j1 + 1 : Nat) : Int) by have := hx27; omega) (fun j => (hfr8 j )) (by omega) (by omega) (by show n1 + 1 = (if (ss j1).toInt ≤ w.toInt - (os j1).toInt ∧ w.toInt - (os j1).toInt < (se j1).toInt then cntH ss se os w.toInt j1 + 1 else cntH ss se os w.toInt j1); rw [if_pos (by omega)]; omega) (by omega) (by omega) (by omega)
              · refine v_iload C 5 dX6_momentOf_77 rfl ?_
                have hEE : E7 = E := funext (fun j => hfr8 j)
                exact v_ret C dX6_momentOf_79 rfl rfl ⟨Or.inl ⟨j1, by omega, ⟨by omega, by omega⟩, by omega, hx20⟩, hEE.symm⟩
  exact LP4 100000 0 0 j0 r2 E (show Int32.toInt 0 = ((0 : Nat) : Int) by have := (show (0 : Int32).toInt = 0 by decide); omega) (show Int32.toInt r2 = ((j0 : Nat) : Int) by have := hj0; omega) (fun j => rfl) (by omega) (by omega) (by rw [show j0 = 0 + j0 by omega, cntH_skip j0 (fun i _ h2 => no_hit_low hS hST (by omega))]; rfl) (by omega) (by omega) (by omega)

