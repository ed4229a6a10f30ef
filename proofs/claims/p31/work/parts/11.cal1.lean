set_option maxRecDepth 20000 in
theorem c_floorMod (l : Launch) (G : Gl) (n : Nat) (ad : Nat → Nat) (E : Nat → va_E) (x y : Int32) (hy : 0 < y.toInt)  : CtI l G yJ9_floorMod_7cf53 cJ9_floorMod_7cf53 3 .int 0 0 n ad E [.int x, .int y] (fun r E' => (r.toInt = x.toInt % y.toInt) ∧ E = E') := by
  refine CtI.ofF (by decide +kernel) (Nat.le_of_ble_eq_true rfl) (fun X A C => ?_)
  refine v_sub (lv' := [(0, .int x), (1, .int y)]) [0, 1] rfl ?_
  refine v_iload_n C 0 dJ9_floorMod_7cf53_0 rfl rfl ?_
  refine v_iload_n C 1 dJ9_floorMod_7cf53_1 rfl rfl ?_
  refine v_irem C dJ9_floorMod_7cf53_2 (ti_ne rfl (show (0 : Int32).toInt = 0 by decide) (by omega)) ?_
  refine v_top (fun x1 ex1 => ?_)
  refine v_istore_n (lv' := [(0, .int x), (1, .int y), (2, .int x1)]) C [1, 2, 0] dJ9_floorMod_7cf53_3 rfl (by decide) rfl ?_
  have hm : x1.toInt = Int.tmod x.toInt y.toInt := by rw [ex1]; exact ti_trem rfl rfl hy
  refine v_iload_n C 0 dJ9_floorMod_7cf53_4 rfl rfl ?_
  refine v_iload_n C 1 dJ9_floorMod_7cf53_5 rfl rfl ?_
  refine v_ixor C dJ9_floorMod_7cf53_6 ?_
  refine b_if_ge C 18 dJ9_floorMod_7cf53_7 (by decide) (rfl : Int32.toInt (x ^^^ y) = _) (fun c2 => ?_) (fun c2 => ?_)
  · refine v_iload_n C 2 dJ9_floorMod_7cf53_18 rfl rfl ?_
    exact v_ret C dJ9_floorMod_7cf53_19 rfl rfl ⟨hm.trans (Int.tmod_eq_emod_of_nonneg (by have := ti_bit (x := x) hy; omega)), rfl⟩
  · refine v_iload_n C 2 dJ9_floorMod_7cf53_10 rfl rfl ?_
    refine b_if_eq C 18 dJ9_floorMod_7cf53_11 (by decide) (rfl : Int32.toInt x1 = _) (fun c3 => ?_) (fun c3 => ?_)
    · refine v_iload_n C 2 dJ9_floorMod_7cf53_18 rfl rfl ?_
      exact v_ret C dJ9_floorMod_7cf53_19 rfl rfl ⟨hm.trans (fmod1 hy (by omega)), rfl⟩
    · refine v_iload_n C 2 dJ9_floorMod_7cf53_14 rfl rfl ?_
      refine v_iload_n C 1 dJ9_floorMod_7cf53_15 rfl rfl ?_
      refine v_iadd C dJ9_floorMod_7cf53_16 ?_
      refine v_top (fun x4 ex4 => ?_)
      have hx4 : x4.toInt = (x1.toInt + y.toInt) := by rw [ex4]; exact ti_add (rfl : Int32.toInt x1 = _) (rfl : Int32.toInt y = _) (by have := ti_lo x1; omega) (by have := ti_hi y; have := ti_bit (x := x) hy; have h2 := tmod_np (a := x.toInt) (b := y.toInt) (by omega); omega)
      exact v_ret C dJ9_floorMod_7cf53_17 rfl rfl ⟨(hx4.trans (by rw [hm]; exact fmod2 hy (by have h1 := ti_bit (x := x) hy; have h2 := tmod_np (a := x.toInt) (b := y.toInt) (by omega); omega))), rfl⟩

set_option maxRecDepth 20000 in
theorem c_rest (l : Launch) (G : Gl) (n : Nat) (ad : Nat → Nat) (E : Nat → va_E) (x : Int32) (y : Int32)  : CtI l G yX8_rest cX8_rest 2 .int 1 22 n ad E [.int x, .int y] (fun r E' => (r.toInt = if 0 < y.toInt then x.toInt % y.toInt else 0) ∧ E = E') := by
  refine CtI.of (by decide) (Nat.le_of_ble_eq_true rfl) (fun X A C => ?_)
  refine v_sub (lv' := [(0, .int x), (1, .int y)]) [0, 1] rfl ?_
  refine v_iload_n C 1 dX8_rest_0 rfl rfl ?_
  refine b_if_le C 12 dX8_rest_1 (by decide) (rfl : Int32.toInt y = _) (fun c1 => ?_) (fun c1 => ?_)
  · refine v_iconst (v := 0) C dX8_rest_12 (by decide) ?_
    exact v_ret C dX8_rest_13 rfl rfl ⟨by rw [if_neg (by omega)]; decide, rfl⟩
  · refine v_iload_n C 0 dX8_rest_4 rfl rfl ?_
    refine v_iload_n C 1 dX8_rest_5 rfl rfl ?_
    refine v_cSp C dX8_rest_6 lX8_289 mJ9_floorMod_7cf53 (c_floorMod l G n ad _ x y (by omega)) ⟨by decide, by decide⟩ rfl (Nat.le_of_ble_eq_true rfl) ⟨Nat.zero_le _, Nat.zero_le _⟩ (fun r3 hp2 => ?_)
    refine v_goto C 13 dX8_rest_9 (by decide) ?_
    exact v_ret C dX8_rest_13 rfl rfl ⟨by rw [if_pos (by omega)]; exact hp2, rfl⟩

set_option maxRecDepth 20000 in
theorem c_days (l : Launch) (G : Gl) (n : Nat) (ad : Nat → Nat) (E : Nat → va_E) (hn : 6 ≤ n) {ic md ms ld ys : Nat → Int32} (hE1 : E 1 = ob 0 (rfs ad [2, 3, 4, 5]) ic) (hE2 : E 2 = aI G 12 md) (hE3 : E 3 = aI G 12 ms) (hE4 : E 4 = aI G 100 ld) (hE5 : E 5 = aI G 101 ys) (hP : CalP ic md) (hF : CalF ic md ms ld ys)  : CtI l G yX0_days cX0_days 1 .int 0 0 n ad E [.ref (ad 1)] (fun r E' => (r.toInt = YSf md (ic 4).toInt (ic 5).toInt 100) ∧ E = E') := by
  refine CtI.of (by decide) (Nat.le_of_ble_eq_true rfl) (fun X A C => ?_)
  refine v_sub (lv' := [(0, .ref (ad 1))]) [0] rfl ?_
  refine v_aload_n C 0 dX0_days_0 rfl rfl ?_
  refine v_getr C 1 dX0_days_1 fX0_21 (by omega) hE1 rfl rfl ?_
  refine v_bipush (v := 100) C dX0_days_4 (by decide) ?_
  refine v_ald (v := ys 100) C 5 dX0_days_6 (by omega) hE5 (ti_in (show (100 : Int32).toInt = 100 by decide) (by omega) (by omega)) (congrArg ys (by decide)) ?_
  exact v_ret C dX0_days_7 rfl rfl ⟨hF.2.2 100 (by decide), rfl⟩

set_option maxRecDepth 20000 in
theorem c_has (l : Launch) (G : Gl) (n : Nat) (ad : Nat → Nat) (E : Nat → va_E) (hn : 6 ≤ n) {ic md ms ld ys : Nat → Int32} (hE1 : E 1 = ob 0 (rfs ad [2, 3, 4, 5]) ic) (hE2 : E 2 = aI G 12 md) (hE3 : E 3 = aI G 12 ms) (hE4 : E 4 = aI G 100 ld) (hE5 : E 5 = aI G 101 ys) (hP : CalP ic md) (hF : CalF ic md ms ld ys) (d : Int32)  : CtI l G yX0_has cX0_has 2 .boolean 1 20 n ad E [.ref (ad 1), .int d] (fun r E' => ((r = 1 ∧ (0 ≤ d.toInt ∧ d.toInt < YSf md (ic 4).toInt (ic 5).toInt 100)) ∨ (r = 0 ∧ ¬ (0 ≤ d.toInt ∧ d.toInt < YSf md (ic 4).toInt (ic 5).toInt 100))) ∧ E = E') := by
  refine CtI.of (by decide) (Nat.le_of_ble_eq_true rfl) (fun X A C => ?_)
  refine v_sub (lv' := [(0, .ref (ad 1)), (1, .int d)]) [0, 1] rfl ?_
  refine v_iload_n C 1 dX0_has_0 rfl rfl ?_
  refine b_if_lt C 16 dX0_has_1 (by decide) (rfl : Int32.toInt d = _) (fun c1 => ?_) (fun c1 => ?_)
  · refine v_iconst (v := 0) C dX0_has_16 (by decide) ?_
    exact v_ret C dX0_has_17 rfl rfl ⟨Or.inr ⟨rfl, by omega⟩, rfl⟩
  · refine v_iload_n C 1 dX0_has_4 rfl rfl ?_
    refine v_aload_n C 0 dX0_has_5 rfl rfl ?_
    refine v_cVp C dX0_has_6 lX0_47 mX0_days 1 (by omega) hE1 (by decide) rfl (c_days l G n ad _ hn hE1 hE2 hE3 hE4 hE5 hP hF ) ⟨by decide, by decide⟩ rfl (Nat.le_of_ble_eq_true rfl) ⟨Nat.zero_le _, Nat.zero_le _⟩ (fun r3 hp2 => ?_)
    refine b_icmp_ge C 16 dX0_has_9 (by decide) (rfl : Int32.toInt d = _) hp2 (fun c4 => ?_) (fun c4 => ?_)
    · refine v_iconst (v := 0) C dX0_has_16 (by decide) ?_
      exact v_ret C dX0_has_17 rfl rfl ⟨Or.inr ⟨rfl, by omega⟩, rfl⟩
    · refine v_iconst (v := 1) C dX0_has_12 (by decide) ?_
      refine v_goto C 17 dX0_has_13 (by decide) ?_
      exact v_ret C dX0_has_17 rfl rfl ⟨Or.inl ⟨rfl, by omega⟩, rfl⟩

set_option maxRecDepth 20000 in
theorem c_hasWall (l : Launch) (G : Gl) (n : Nat) (ad : Nat → Nat) (E : Nat → va_E) (hn : 6 ≤ n) {ic md ms ld ys : Nat → Int32} (hE1 : E 1 = ob 0 (rfs ad [2, 3, 4, 5]) ic) (hE2 : E 2 = aI G 12 md) (hE3 : E 3 = aI G 12 ms) (hE4 : E 4 = aI G 100 ld) (hE5 : E 5 = aI G 101 ys) (hP : CalP ic md) (hF : CalF ic md ms ld ys) (d : Int32)  : CtI l G yX0_hasWall cX0_hasWall 2 .boolean 1 20 n ad E [.ref (ad 1), .int d] (fun r E' => ((r = 1 ∧ (0 ≤ d.toInt ∧ d.toInt < YSf md (ic 4).toInt (ic 5).toInt 100 * 1440)) ∨ (r = 0 ∧ ¬ (0 ≤ d.toInt ∧ d.toInt < YSf md (ic 4).toInt (ic 5).toInt 100 * 1440))) ∧ E = E') := by
  refine CtI.of (by decide) (Nat.le_of_ble_eq_true rfl) (fun X A C => ?_)
  refine v_sub (lv' := [(0, .ref (ad 1)), (1, .int d)]) [0, 1] rfl ?_
  have hy100 := YS_b (a := (ic 4).toInt) (b := (ic 5).toInt) hP.1 100
  refine v_iload_n C 1 dX0_hasWall_0 rfl rfl ?_
  refine b_if_lt C 20 dX0_hasWall_1 (by decide) (rfl : Int32.toInt d = _) (fun c1 => ?_) (fun c1 => ?_)
  · refine v_iconst (v := 0) C dX0_hasWall_20 (by decide) ?_
    exact v_ret C dX0_hasWall_21 rfl rfl ⟨Or.inr ⟨rfl, by omega⟩, rfl⟩
  · refine v_iload_n C 1 dX0_hasWall_4 rfl rfl ?_
    refine v_aload_n C 0 dX0_hasWall_5 rfl rfl ?_
    refine v_cVp C dX0_hasWall_6 lX0_47 mX0_days 1 (by omega) hE1 (by decide) rfl (c_days l G n ad _ hn hE1 hE2 hE3 hE4 hE5 hP hF ) ⟨by decide, by decide⟩ rfl (Nat.le_of_ble_eq_true rfl) ⟨Nat.zero_le _, Nat.zero_le _⟩ (fun r3 hp2 => ?_)
    refine v_sipush (v := 1440) C dX0_hasWall_9 (by decide) ?_
    refine v_imul C dX0_hasWall_12 ?_
    refine v_top (fun x4 ex4 => ?_)
    have hx4 : x4.toInt = ((YSf md (ic 4).toInt (ic 5).toInt 100) * 1440) := by rw [ex4]; exact ti_mul hp2 (show (1440 : Int32).toInt = 1440 by decide) (by omega) (by omega)
    refine b_icmp_ge C 20 dX0_hasWall_13 (by decide) (rfl : Int32.toInt d = _) hx4 (fun c5 => ?_) (fun c5 => ?_)
    · refine v_iconst (v := 0) C dX0_hasWall_20 (by decide) ?_
      exact v_ret C dX0_hasWall_21 rfl rfl ⟨Or.inr ⟨rfl, by omega⟩, rfl⟩
    · refine v_iconst (v := 1) C dX0_hasWall_16 (by decide) ?_
      refine v_goto C 21 dX0_hasWall_17 (by decide) ?_
      exact v_ret C dX0_hasWall_21 rfl rfl ⟨Or.inl ⟨rfl, by omega⟩, rfl⟩

set_option maxRecDepth 20000 in
theorem c_isWeekday (l : Launch) (G : Gl) (n : Nat) (ad : Nat → Nat) (E : Nat → va_E) (hn : 6 ≤ n) {ic md ms ld ys : Nat → Int32} (hE1 : E 1 = ob 0 (rfs ad [2, 3, 4, 5]) ic) (hE2 : E 2 = aI G 12 md) (hE3 : E 3 = aI G 12 ms) (hE4 : E 4 = aI G 100 ld) (hE5 : E 5 = aI G 101 ys) (hP : CalP ic md) (hF : CalF ic md ms ld ys) (d : Int32)  : CtI l G yX0_isWeekday cX0_isWeekday 2 .boolean 0 0 n ad E [.ref (ad 1), .int d] (fun r E' => ((r = 1 ∧ (0 ≤ d.toInt ∧ d.toInt < (ic 7).toInt)) ∨ (r = 0 ∧ ¬ (0 ≤ d.toInt ∧ d.toInt < (ic 7).toInt))) ∧ E = E') := by
  refine CtI.of (by decide) (Nat.le_of_ble_eq_true rfl) (fun X A C => ?_)
  refine v_sub (lv' := [(0, .ref (ad 1)), (1, .int d)]) [0, 1] rfl ?_
  refine v_iload_n C 1 dX0_isWeekday_0 rfl rfl ?_
  refine b_if_lt C 16 dX0_isWeekday_1 (by decide) (rfl : Int32.toInt d = _) (fun c1 => ?_) (fun c1 => ?_)
  · refine v_iconst (v := 0) C dX0_isWeekday_16 (by decide) ?_
    exact v_ret C dX0_isWeekday_17 rfl rfl ⟨Or.inr ⟨rfl, by omega⟩, rfl⟩
  · refine v_iload_n C 1 dX0_isWeekday_4 rfl rfl ?_
    refine v_aload_n C 0 dX0_isWeekday_5 rfl rfl ?_
    refine v_geti (v := ic 7) C 1 dX0_isWeekday_6 fX0_34 (by omega) hE1 rfl rfl ?_
    refine b_icmp_ge C 16 dX0_isWeekday_9 (by decide) (rfl : Int32.toInt d = _) (rfl : Int32.toInt (ic 7) = _) (fun c2 => ?_) (fun c2 => ?_)
    · refine v_iconst (v := 0) C dX0_isWeekday_16 (by decide) ?_
      exact v_ret C dX0_isWeekday_17 rfl rfl ⟨Or.inr ⟨rfl, by omega⟩, rfl⟩
    · refine v_iconst (v := 1) C dX0_isWeekday_12 (by decide) ?_
      refine v_goto C 17 dX0_isWeekday_13 (by decide) ?_
      exact v_ret C dX0_isWeekday_17 rfl rfl ⟨Or.inl ⟨rfl, by omega⟩, rfl⟩

set_option maxRecDepth 20000 in
theorem c_weekdayOf (l : Launch) (G : Gl) (n : Nat) (ad : Nat → Nat) (E : Nat → va_E) (hn : 6 ≤ n) {ic md ms ld ys : Nat → Int32} (hE1 : E 1 = ob 0 (rfs ad [2, 3, 4, 5]) ic) (hE2 : E 2 = aI G 12 md) (hE3 : E 3 = aI G 12 ms) (hE4 : E 4 = aI G 100 ld) (hE5 : E 5 = aI G 101 ys) (hP : CalP ic md) (hF : CalF ic md ms ld ys) (d : Int32) (hd1 : -1000000000 ≤ d.toInt) (hd2 : d.toInt ≤ 1000000000)  : CtI l G yX0_weekdayOf cX0_weekdayOf 2 .int 2 43 n ad E [.ref (ad 1), .int d] (fun r E' => (r.toInt = (d.toInt + (ic 8).toInt) % (ic 7).toInt) ∧ E = E') := by
  refine CtI.of (by decide) (Nat.le_of_ble_eq_true rfl) (fun X A C => ?_)
  refine v_sub (lv' := [(0, .ref (ad 1)), (1, .int d)]) [0, 1] rfl ?_
  have q7 := hP.2.2.2.2.1
  have q8 := hP.2.2.2.2.2
  refine v_iload_n C 1 dX0_weekdayOf_0 rfl rfl ?_
  refine v_aload_n C 0 dX0_weekdayOf_1 rfl rfl ?_
  refine v_geti (v := ic 8) C 1 dX0_weekdayOf_2 fX0_37 (by omega) hE1 rfl rfl ?_
  refine v_iadd C dX0_weekdayOf_5 ?_
  refine v_top (fun x1 ex1 => ?_)
  have hx1 : x1.toInt = (d.toInt + (ic 8).toInt) := by rw [ex1]; exact ti_add (rfl : Int32.toInt d = _) (rfl : Int32.toInt (ic 8) = _) (by omega) (by omega)
  refine v_aload_n C 0 dX0_weekdayOf_6 rfl rfl ?_
  refine v_geti (v := ic 7) C 1 dX0_weekdayOf_7 fX0_34 (by omega) hE1 rfl rfl ?_
  refine v_cSNp C dX0_weekdayOf_10 (List.mem_of_getElem? (i := 0) rfl) mX8_rest (c_rest l G n ad _ x1 (ic 7)) ⟨by decide, by decide⟩ rfl (Nat.le_of_ble_eq_true rfl) ⟨Nat.zero_le _, Nat.zero_le _⟩ (fun r3 hp2 => ?_)
  exact v_ret C dX0_weekdayOf_13 rfl rfl ⟨by have h := hp2; rw [if_pos (by omega), hx1] at h; exact h, rfl⟩

set_option maxRecDepth 20000 in
theorem c_daysIn (l : Launch) (G : Gl) (n : Nat) (ad : Nat → Nat) (E : Nat → va_E) (hn : 6 ≤ n) {ic md ms ld ys : Nat → Int32} (hE1 : E 1 = ob 0 (rfs ad [2, 3, 4, 5]) ic) (hE2 : E 2 = aI G 12 md) (hE3 : E 3 = aI G 12 ms) (hE4 : E 4 = aI G 100 ld) (hE5 : E 5 = aI G 101 ys) (hP : CalP ic md) (hF : CalF ic md ms ld ys) (y : Int32) (m : Int32) {yy mm : Nat} (hy : y.toInt = (yy : Int)) (hm : m.toInt = (mm : Int)) (hy2 : yy < 100) (hm2 : mm < 12)  : CtI l G yX0_daysIn cX0_daysIn 3 .int 0 0 n ad E [.ref (ad 1), .int y, .int m] (fun r E' => (r.toInt = DIf ic md yy mm) ∧ E = E') := by
  refine CtI.of (by decide) (Nat.le_of_ble_eq_true rfl) (fun X A C => ?_)
  refine v_sub (lv' := [(0, .ref (ad 1)), (1, .int y), (2, .int m)]) [0, 1, 2] rfl ?_
  have qm := hP.1 mm hm2
  have ql := hF.2.1 yy hy2
  have qb := LP_01 (ic 4).toInt (ic 5).toInt yy
  have qs := hF.1 mm hm2
  have qy := hF.2.2 yy (by omega)
  have qB := YS_b (a := (ic 4).toInt) (b := (ic 5).toInt) hP.1 yy
  have qM := MS_b hP.1 mm (by omega)
  refine v_aload_n C 0 dX0_daysIn_0 rfl rfl ?_
  refine v_getr C 1 dX0_daysIn_1 fX0_9 (by omega) hE1 rfl rfl ?_
  refine v_iload_n C 2 dX0_daysIn_4 rfl rfl ?_
  refine v_ald (v := md mm) C 2 dX0_daysIn_5 (by omega) hE2 (ti_in hm (by omega) (by omega)) (by rw [ti_cl hm, show Int.toNat (mm : Int) = mm by omega]) ?_
  refine v_iload_n C 2 dX0_daysIn_6 rfl rfl ?_
  refine v_aload_n C 0 dX0_daysIn_7 rfl rfl ?_
  refine v_geti (v := ic 6) C 1 dX0_daysIn_8 fX0_31 (by omega) hE1 rfl rfl ?_
  refine b_icmp_ne C 23 dX0_daysIn_11 (by decide) hm (rfl : Int32.toInt (ic 6) = _) (fun c1 => ?_) (fun c1 => ?_)
  · refine v_iconst (v := 0) C dX0_daysIn_23 (by decide) ?_
    refine v_iadd C dX0_daysIn_24 ?_
    refine v_top (fun x2 ex2 => ?_)
    have hx2 : x2.toInt = ((md mm).toInt + 0) := by rw [ex2]; exact ti_add (rfl : Int32.toInt (md mm) = _) (show (0 : Int32).toInt = 0 by decide) (by omega) (by omega)
    exact v_ret C dX0_daysIn_25 rfl rfl ⟨by unfold DIf; rw [if_neg (by omega)]; have h := hx2; omega, rfl⟩
  · refine v_aload_n C 0 dX0_daysIn_14 rfl rfl ?_
    refine v_getr C 1 dX0_daysIn_15 fX0_18 (by omega) hE1 rfl rfl ?_
    refine v_iload_n C 1 dX0_daysIn_18 rfl rfl ?_
    refine v_ald (v := ld yy) C 4 dX0_daysIn_19 (by omega) hE4 (ti_in hy (by omega) (by omega)) (by rw [ti_cl hy, show Int.toNat (yy : Int) = yy by omega]) ?_
    refine v_goto C 24 dX0_daysIn_20 (by decide) ?_
    refine v_iadd C dX0_daysIn_24 ?_
    refine v_top (fun x3 ex3 => ?_)
    have hx3 : x3.toInt = ((md mm).toInt + (ld yy).toInt) := by rw [ex3]; exact ti_add (rfl : Int32.toInt (md mm) = _) (rfl : Int32.toInt (ld yy) = _) (by omega) (by omega)
    exact v_ret C dX0_daysIn_25 rfl rfl ⟨by unfold DIf; rw [if_pos (by omega)]; have h := hx3; omega, rfl⟩

set_option maxRecDepth 20000 in
theorem c_firstDay (l : Launch) (G : Gl) (n : Nat) (ad : Nat → Nat) (E : Nat → va_E) (hn : 6 ≤ n) {ic md ms ld ys : Nat → Int32} (hE1 : E 1 = ob 0 (rfs ad [2, 3, 4, 5]) ic) (hE2 : E 2 = aI G 12 md) (hE3 : E 3 = aI G 12 ms) (hE4 : E 4 = aI G 100 ld) (hE5 : E 5 = aI G 101 ys) (hP : CalP ic md) (hF : CalF ic md ms ld ys) (y : Int32) (m : Int32) {yy mm : Nat} (hy : y.toInt = (yy : Int)) (hm : m.toInt = (mm : Int)) (hy2 : yy < 100) (hm2 : mm < 12)  : CtI l G yX0_firstDay cX0_firstDay 3 .int 0 0 n ad E [.ref (ad 1), .int y, .int m] (fun r E' => (r.toInt = FDf ic md yy mm) ∧ E = E') := by
  refine CtI.of (by decide) (Nat.le_of_ble_eq_true rfl) (fun X A C => ?_)
  refine v_sub (lv' := [(0, .ref (ad 1)), (1, .int y), (2, .int m)]) [0, 1, 2] rfl ?_
  have qm := hP.1 mm hm2
  have ql := hF.2.1 yy hy2
  have qb := LP_01 (ic 4).toInt (ic 5).toInt yy
  have qs := hF.1 mm hm2
  have qy := hF.2.2 yy (by omega)
  have qB := YS_b (a := (ic 4).toInt) (b := (ic 5).toInt) hP.1 yy
  have qM := MS_b hP.1 mm (by omega)
  refine v_aload_n C 0 dX0_firstDay_0 rfl rfl ?_
  refine v_getr C 1 dX0_firstDay_1 fX0_21 (by omega) hE1 rfl rfl ?_
  refine v_iload_n C 1 dX0_firstDay_4 rfl rfl ?_
  refine v_ald (v := ys yy) C 5 dX0_firstDay_5 (by omega) hE5 (ti_in hy (by omega) (by omega)) (by rw [ti_cl hy, show Int.toNat (yy : Int) = yy by omega]) ?_
  refine v_aload_n C 0 dX0_firstDay_6 rfl rfl ?_
  refine v_getr C 1 dX0_firstDay_7 fX0_15 (by omega) hE1 rfl rfl ?_
  refine v_iload_n C 2 dX0_firstDay_10 rfl rfl ?_
  refine v_ald (v := ms mm) C 3 dX0_firstDay_11 (by omega) hE3 (ti_in hm (by omega) (by omega)) (by rw [ti_cl hm, show Int.toNat (mm : Int) = mm by omega]) ?_
  refine v_iadd C dX0_firstDay_12 ?_
  refine v_top (fun x1 ex1 => ?_)
  have hx1 : x1.toInt = ((ys yy).toInt + (ms mm).toInt) := by rw [ex1]; exact ti_add (rfl : Int32.toInt (ys yy) = _) (rfl : Int32.toInt (ms mm) = _) (by omega) (by omega)
  refine v_iload_n C 2 dX0_firstDay_13 rfl rfl ?_
  refine v_aload_n C 0 dX0_firstDay_14 rfl rfl ?_
  refine v_geti (v := ic 6) C 1 dX0_firstDay_15 fX0_31 (by omega) hE1 rfl rfl ?_
  refine b_icmp_le C 30 dX0_firstDay_18 (by decide) hm (rfl : Int32.toInt (ic 6) = _) (fun c2 => ?_) (fun c2 => ?_)
  · refine v_iconst (v := 0) C dX0_firstDay_30 (by decide) ?_
    refine v_iadd C dX0_firstDay_31 ?_
    refine v_top (fun x3 ex3 => ?_)
    have hx3 : x3.toInt = (((ys yy).toInt + (ms mm).toInt) + 0) := by rw [ex3]; exact ti_add hx1 (show (0 : Int32).toInt = 0 by decide) (by omega) (by omega)
    exact v_ret C dX0_firstDay_32 rfl rfl ⟨by unfold FDf; rw [if_neg (by omega)]; have h := hx3; omega, rfl⟩
  · refine v_aload_n C 0 dX0_firstDay_21 rfl rfl ?_
    refine v_getr C 1 dX0_firstDay_22 fX0_18 (by omega) hE1 rfl rfl ?_
    refine v_iload_n C 1 dX0_firstDay_25 rfl rfl ?_
    refine v_ald (v := ld yy) C 4 dX0_firstDay_26 (by omega) hE4 (ti_in hy (by omega) (by omega)) (by rw [ti_cl hy, show Int.toNat (yy : Int) = yy by omega]) ?_
    refine v_goto C 31 dX0_firstDay_27 (by decide) ?_
    refine v_iadd C dX0_firstDay_31 ?_
    refine v_top (fun x4 ex4 => ?_)
    have hx4 : x4.toInt = (((ys yy).toInt + (ms mm).toInt) + (ld yy).toInt) := by rw [ex4]; exact ti_add hx1 (rfl : Int32.toInt (ld yy) = _) (by omega) (by omega)
    exact v_ret C dX0_firstDay_32 rfl rfl ⟨by unfold FDf; rw [if_pos (by omega)]; have h := hx4; omega, rfl⟩

