set_option maxRecDepth 20000 in
theorem c_isRange (l : Launch) (G : Gl) (n : Nat) (ad : Nat → Nat) (E : Nat → va_E) (a : Int32) (b : Int32)  : CtI l G yX8_isRange cX8_isRange 2 .boolean 1 20 n ad E [.int a, .int b] (fun r E' => ((r = 1 ∧ (okRng a.toInt b.toInt)) ∨ (r = 0 ∧ ¬ (okRng a.toInt b.toInt))) ∧ E = E') := by
  refine CtI.of (by decide) (Nat.le_of_ble_eq_true rfl) (fun X A C => ?_)
  refine v_sub (lv' := [(0, .int a), (1, .int b)]) [0, 1] rfl ?_
  refine v_iload_n C 0 dX8_isRange_0 rfl rfl ?_
  refine v_cSp C dX8_isRange_1 lX8_162 mX8_isMoment (c_isMoment l G n ad _ a) ⟨by decide, by decide⟩ rfl (Nat.le_of_ble_eq_true rfl) ⟨Nat.zero_le _, Nat.zero_le _⟩ (fun r2 hp1 => ?_)
  rcases hp1 with ⟨rfl, hp1⟩ | ⟨rfl, hp1⟩
  · refine b_if_eq C 31 dX8_isRange_4 (by decide) (show (1 : Int32).toInt = 1 by decide) (fun c3 => absurd c3 (by decide)) (fun c3 => ?_)
    refine v_iload_n C 1 dX8_isRange_7 rfl rfl ?_
    refine v_cSp C dX8_isRange_8 lX8_162 mX8_isMoment (c_isMoment l G n ad _ b) ⟨by decide, by decide⟩ rfl (Nat.le_of_ble_eq_true rfl) ⟨Nat.zero_le _, Nat.zero_le _⟩ (fun r5 hp4 => ?_)
    rcases hp4 with ⟨rfl, hp4⟩ | ⟨rfl, hp4⟩
    · refine b_if_eq C 31 dX8_isRange_11 (by decide) (show (1 : Int32).toInt = 1 by decide) (fun c6 => absurd c6 (by decide)) (fun c6 => ?_)
      refine v_iload_n C 0 dX8_isRange_14 rfl rfl ?_
      refine v_iload_n C 1 dX8_isRange_15 rfl rfl ?_
      refine b_icmp_gt C 31 dX8_isRange_16 (by decide) (rfl : Int32.toInt a = _) (rfl : Int32.toInt b = _) (fun c7 => ?_) (fun c7 => ?_)
      · refine v_iconst (v := 0) C dX8_isRange_31 (by decide) ?_
        exact v_ret C dX8_isRange_32 rfl rfl ⟨Or.inr ⟨rfl, by unfold okRng; omega⟩, rfl⟩
      · refine v_iload_n C 1 dX8_isRange_19 rfl rfl ?_
        refine v_iload_n C 0 dX8_isRange_20 rfl rfl ?_
        refine v_isub C dX8_isRange_21 ?_
        refine v_top (fun x8 ex8 => ?_)
        have hx8 : x8.toInt = (b.toInt - a.toInt) := by rw [ex8]; exact ti_sub (rfl : Int32.toInt b = _) (rfl : Int32.toInt a = _) (by omega) (by omega)
        refine v_ldc C dX8_isRange_22 kX8_243 ?_
        refine b_icmp_gt C 31 dX8_isRange_24 (by decide) hx8 (show (2000000 : Int32).toInt = 2000000 by decide) (fun c9 => ?_) (fun c9 => ?_)
        · refine v_iconst (v := 0) C dX8_isRange_31 (by decide) ?_
          exact v_ret C dX8_isRange_32 rfl rfl ⟨Or.inr ⟨rfl, by unfold okRng; omega⟩, rfl⟩
        · refine v_iconst (v := 1) C dX8_isRange_27 (by decide) ?_
          refine v_goto C 32 dX8_isRange_28 (by decide) ?_
          exact v_ret C dX8_isRange_32 rfl rfl ⟨Or.inl ⟨rfl, by unfold okRng; omega⟩, rfl⟩
    · refine b_if_eq C 31 dX8_isRange_11 (by decide) (show (0 : Int32).toInt = 0 by decide) (fun c10 => ?_) (fun c10 => absurd c10 (by decide))
      refine v_iconst (v := 0) C dX8_isRange_31 (by decide) ?_
      exact v_ret C dX8_isRange_32 rfl rfl ⟨Or.inr ⟨rfl, by unfold okRng; omega⟩, rfl⟩
  · refine b_if_eq C 31 dX8_isRange_4 (by decide) (show (0 : Int32).toInt = 0 by decide) (fun c11 => ?_) (fun c11 => absurd c11 (by decide))
    refine v_iconst (v := 0) C dX8_isRange_31 (by decide) ?_
    exact v_ret C dX8_isRange_32 rfl rfl ⟨Or.inr ⟨rfl, by unfold okRng; omega⟩, rfl⟩

set_option maxRecDepth 20000 in
theorem c_isReach (l : Launch) (G : Gl) (n : Nat) (ad : Nat → Nat) (E : Nat → va_E) (a : Int32) (m : Int32) (z : Int32) (hz : z.toInt ≤ 2000000)  : CtI l G yX8_isReach cX8_isReach 3 .boolean 1 20 n ad E [.int a, .int m, .int z] (fun r E' => ((r = 1 ∧ (okRch a.toInt m.toInt z.toInt)) ∨ (r = 0 ∧ ¬ (okRch a.toInt m.toInt z.toInt))) ∧ E = E') := by
  refine CtI.of (by decide) (Nat.le_of_ble_eq_true rfl) (fun X A C => ?_)
  refine v_sub (lv' := [(0, .int a), (1, .int m), (2, .int z)]) [0, 1, 2] rfl ?_
  refine v_iload_n C 0 dX8_isReach_0 rfl rfl ?_
  refine v_cSp C dX8_isReach_1 lX8_162 mX8_isMoment (c_isMoment l G n ad _ a) ⟨by decide, by decide⟩ rfl (Nat.le_of_ble_eq_true rfl) ⟨Nat.zero_le _, Nat.zero_le _⟩ (fun r2 hp1 => ?_)
  rcases hp1 with ⟨rfl, hp1⟩ | ⟨rfl, hp1⟩
  · refine b_if_eq C 29 dX8_isReach_4 (by decide) (show (1 : Int32).toInt = 1 by decide) (fun c3 => absurd c3 (by decide)) (fun c3 => ?_)
    refine v_iload_n C 1 dX8_isReach_7 rfl rfl ?_
    refine b_if_lt C 29 dX8_isReach_8 (by decide) (rfl : Int32.toInt m = _) (fun c4 => ?_) (fun c4 => ?_)
    · refine v_iconst (v := 0) C dX8_isReach_29 (by decide) ?_
      exact v_ret C dX8_isReach_30 rfl rfl ⟨Or.inr ⟨rfl, by unfold okRch; omega⟩, rfl⟩
    · refine v_iload_n C 1 dX8_isReach_11 rfl rfl ?_
      refine v_iload_n C 2 dX8_isReach_12 rfl rfl ?_
      refine b_icmp_gt C 29 dX8_isReach_13 (by decide) (rfl : Int32.toInt m = _) (rfl : Int32.toInt z = _) (fun c5 => ?_) (fun c5 => ?_)
      · refine v_iconst (v := 0) C dX8_isReach_29 (by decide) ?_
        exact v_ret C dX8_isReach_30 rfl rfl ⟨Or.inr ⟨rfl, by unfold okRch; omega⟩, rfl⟩
      · refine v_iload_n C 0 dX8_isReach_16 rfl rfl ?_
        refine v_iload_n C 1 dX8_isReach_17 rfl rfl ?_
        refine v_iadd C dX8_isReach_18 ?_
        refine v_top (fun x6 ex6 => ?_)
        have hx6 : x6.toInt = (a.toInt + m.toInt) := by rw [ex6]; exact ti_add (rfl : Int32.toInt a = _) (rfl : Int32.toInt m = _) (by omega) (by omega)
        refine v_cSp C dX8_isReach_19 lX8_162 mX8_isMoment (c_isMoment l G n ad _ x6) ⟨by decide, by decide⟩ rfl (Nat.le_of_ble_eq_true rfl) ⟨Nat.zero_le _, Nat.zero_le _⟩ (fun r8 hp7 => ?_)
        rw [hx6] at hp7
        rcases hp7 with ⟨rfl, hp7⟩ | ⟨rfl, hp7⟩
        · refine b_if_eq C 29 dX8_isReach_22 (by decide) (show (1 : Int32).toInt = 1 by decide) (fun c9 => absurd c9 (by decide)) (fun c9 => ?_)
          refine v_iconst (v := 1) C dX8_isReach_25 (by decide) ?_
          refine v_goto C 30 dX8_isReach_26 (by decide) ?_
          exact v_ret C dX8_isReach_30 rfl rfl ⟨Or.inl ⟨rfl, by unfold okRch; omega⟩, rfl⟩
        · refine b_if_eq C 29 dX8_isReach_22 (by decide) (show (0 : Int32).toInt = 0 by decide) (fun c10 => ?_) (fun c10 => absurd c10 (by decide))
          refine v_iconst (v := 0) C dX8_isReach_29 (by decide) ?_
          exact v_ret C dX8_isReach_30 rfl rfl ⟨Or.inr ⟨rfl, by unfold okRch; omega⟩, rfl⟩
  · refine b_if_eq C 29 dX8_isReach_4 (by decide) (show (0 : Int32).toInt = 0 by decide) (fun c11 => ?_) (fun c11 => absurd c11 (by decide))
    refine v_iconst (v := 0) C dX8_isReach_29 (by decide) ?_
    exact v_ret C dX8_isReach_30 rfl rfl ⟨Or.inr ⟨rfl, by unfold okRch; omega⟩, rfl⟩

set_option maxRecDepth 20000 in
theorem c_at0 (l : Launch) (G : Gl) (n : Nat) (ad : Nat → Nat) (E : Nat → va_E) (hN : 52 ≤ n) {iz : Nat → Int32} (hE6 : E 6 = ob 7 (rfs ad [7]) iz) (hz : (iz 1).toInt = 0) (i : Int32)  : CtQ l G yX7_at cX7_at 2 (.object "OddHours$Zone") 0 0 n ad E [.ref (ad 6), .int i] (fun r E' => (r = none) ∧ E = E') := by
  refine CtQ.of (by decide) (Nat.le_of_ble_eq_true rfl) (fun X A C => ?_)
  refine v_sub (lv' := [(0, .ref (ad 6)), (1, .int i)]) [0, 1] rfl ?_
  refine v_iload_n C 1 dX7_at_0 rfl rfl ?_
  refine b_if_lt C 21 dX7_at_1 (by decide) (rfl : Int32.toInt i = _) (fun c1 => ?_) (fun c1 => ?_)
  · refine v_null C dX7_at_21 ?_
    exact v_qret (v := none) C dX7_at_22 rfl ⟨rfl, rfl⟩
  · refine v_iload_n C 1 dX7_at_4 rfl rfl ?_
    refine v_aload_n C 0 dX7_at_5 rfl rfl ?_
    refine v_geti (v := iz 1) C 6 dX7_at_6 fX7_17 (by omega) hE6 rfl rfl ?_
    refine b_icmp_ge C 21 dX7_at_9 (by decide) (rfl : Int32.toInt i = _) hz (fun c2 => ?_) (fun c2 => by exfalso; omega)
    refine v_null C dX7_at_21 ?_
    exact v_qret (v := none) C dX7_at_22 rfl ⟨rfl, rfl⟩

set_option maxRecDepth 20000 in
theorem c_freshZone0 (l : Launch) (G : Gl) (n : Nat) (ad : Nat → Nat) (E : Nat → va_E) (hN : 52 ≤ n) {io iz : Nat → Int32} (hE0 : E 0 = ob 8 (rfs ad [1, 6, 8, 48, 45, 51]) io) (hE6 : E 6 = ob 7 (rfs ad [7]) iz) (hz : (iz 1).toInt = 0) (i : Int32)  : CtQ l G yX8_freshZone cX8_freshZone 3 (.object "OddHours$Zone") 1 21 n ad E [.ref (ad 0), .int i] (fun r E' => (r = none) ∧ E = E') := by
  refine CtQ.of (by decide) (Nat.le_of_ble_eq_true rfl) (fun X A C => ?_)
  refine v_sub (lv' := [(0, .ref (ad 0)), (1, .int i)]) [0, 1] rfl ?_
  refine v_aload_n C 0 dX8_freshZone_0 rfl rfl ?_
  refine v_getr C 0 dX8_freshZone_1 fX8_19 (by omega) hE0 rfl rfl ?_
  refine v_iload_n C 1 dX8_freshZone_4 rfl rfl ?_
  refine v_cVr C dX8_freshZone_5 lX8_132 mX7_at 6 (by omega) hE6 (by decide) rfl (c_at0 l G n ad _ hN hE6 hz i) ⟨by decide, by decide⟩ rfl (Nat.le_of_ble_eq_true rfl) ⟨Nat.zero_le _, Nat.zero_le _⟩ (fun r1 hp2 => ?_)
  subst hp2
  refine v_astore_nN (lv' := [(0, .ref (ad 0)), (1, .int i), (2, .null)]) C [1, 2, 0] dX8_freshZone_8 rfl (by decide) rfl ?_
  refine v_aload_nN C 2 dX8_freshZone_9 rfl rfl ?_
  refine v_ifnullN C 21 dX8_freshZone_10 (by decide) ?_
  refine v_aload_nN C 2 dX8_freshZone_21 rfl rfl ?_
  exact v_qret (v := none) C dX8_freshZone_22 rfl ⟨rfl, rfl⟩

set_option maxRecDepth 20000 in
theorem c_programAt (l : Launch) (G : Gl) (n : Nat) (ad : Nat → Nat) (E : Nat → va_E) (hN : 52 ≤ n) {io : Nat → Int32} (hE0 : E 0 = ob 8 (rfs ad [1, 6, 8, 48, 45, 51]) io) {fp : Nat → Option Nat} (hE8 : E 8 = aQ G 4 6 fp) (hfp : ∀ i, i < 6 → fp i = some (ad (9 + 6 * i))) (p : Int32)  : CtQ l G yX8_programAt cX8_programAt 2 (.object "OddHours$Program") 0 0 n ad E [.ref (ad 0), .int p] (fun r E' => ((¬ okPr p.toInt ∧ r = none) ∨ (okPr p.toInt ∧ ∃ i : Nat, i < 6 ∧ p.toInt = (i : Int) ∧ r = some (ad (9 + 6 * i)))) ∧ E = E') := by
  refine CtQ.of (by decide) (Nat.le_of_ble_eq_true rfl) (fun X A C => ?_)
  refine v_sub (lv' := [(0, .ref (ad 0)), (1, .int p)]) [0, 1] rfl ?_
  refine v_iload_n C 1 dX8_programAt_0 rfl rfl ?_
  refine b_if_lt C 19 dX8_programAt_1 (by decide) (rfl : Int32.toInt p = _) (fun c1 => ?_) (fun c1 => ?_)
  · refine v_null C dX8_programAt_19 ?_
    exact v_qret (v := none) C dX8_programAt_20 rfl ⟨Or.inl ⟨by unfold okPr; omega, rfl⟩, rfl⟩
  · refine v_iload_n C 1 dX8_programAt_4 rfl rfl ?_
    refine v_bipush (v := 6) C dX8_programAt_5 (by decide) ?_
    refine b_icmp_ge C 19 dX8_programAt_7 (by decide) (rfl : Int32.toInt p = _) (show (6 : Int32).toInt = 6 by decide) (fun c2 => ?_) (fun c2 => ?_)
    · refine v_null C dX8_programAt_19 ?_
      exact v_qret (v := none) C dX8_programAt_20 rfl ⟨Or.inl ⟨by unfold okPr; omega, rfl⟩, rfl⟩
    · refine v_aload_n C 0 dX8_programAt_10 rfl rfl ?_
      refine v_getr C 0 dX8_programAt_11 fX8_25 (by omega) hE0 rfl rfl ?_
      refine v_iload_n C 1 dX8_programAt_14 rfl rfl ?_
      refine v_aldP (v := fp p.toInt.toNat) C 8 dX8_programAt_15 (by omega) hE8 (ti_in (rfl : Int32.toInt p = _) (by omega) (by omega)) (by rw [ti_cl (rfl : Int32.toInt p = _)]) ?_
      refine v_goto C 20 dX8_programAt_16 (by decide) ?_
      exact v_qret C dX8_programAt_20 rfl ⟨Or.inr ⟨by unfold okPr; omega, p.toInt.toNat, by omega, by omega, hfp _ (by omega)⟩, rfl⟩

set_option maxRecDepth 20000 in
theorem e_rule (l : Launch) (G : Gl) (n : Nat) (ad : Nat → Nat) (E : Nat → va_E) (hN : 52 ≤ n) {io iz : Nat → Int32} (hE0 : E 0 = ob 8 (rfs ad [1, 6, 8, 48, 45, 51]) io) (hE6 : E 6 = ob 7 (rfs ad [7]) iz) (hz : (iz 1).toInt = 0) (z : Int32) (y : Int32) (k : Int32) (t : Int32) (v : Int32)  : CtI l G yX8_rule cX8_rule 13 .int 1 21 n ad E [.ref (ad 0), .int z, .int y, .int k, .int t, .int v] (fun r E' => (r.toInt = -1) ∧ Fr8 E E') := by
  refine CtI.of (by decide) (Nat.le_of_ble_eq_true rfl) (fun X A C => ?_)
  refine v_sub (lv' := [(0, .ref (ad 0)), (1, .int z), (2, .int y), (3, .int k), (4, .int t), (5, .int v)]) [0, 1, 2, 3, 4, 5] rfl ?_
  refine v_aload_n C 0 dX8_rule_0 rfl rfl ?_
  refine v_getr C 0 dX8_rule_1 fX8_19 (by omega) hE0 rfl rfl ?_
  refine v_iload_n C 1 dX8_rule_4 rfl rfl ?_
  refine v_cVr C dX8_rule_5 lX8_132 mX7_at 6 (by omega) hE6 (by decide) rfl (c_at0 l G n ad _ hN hE6 hz z) ⟨by decide, by decide⟩ rfl (Nat.le_of_ble_eq_true rfl) ⟨Nat.zero_le _, Nat.zero_le _⟩ (fun r1 hp2 => ?_)
  subst hp2
  refine v_astoreN (lv' := [(0, .ref (ad 0)), (1, .int z), (2, .int y), (3, .int k), (4, .int t), (5, .int v), (6, .null)]) C [1, 2, 3, 4, 5, 6, 0] dX8_rule_8 (by decide) rfl ?_
  refine v_aloadN C 6 dX8_rule_10 rfl ?_
  refine v_ifnullN C 39 dX8_rule_12 (by decide) ?_
  refine v_iconst (v := (-1)) C dX8_rule_39 (by decide) ?_
  exact v_ret C dX8_rule_40 rfl rfl ⟨(show _ by rw [show ((-1) : Int32).toInt = (-1) by decide]; (repeat first | rw [if_pos (by omega)] | rw [if_neg (by omega)]); try omega), (fun j hj => rfl)⟩

set_option maxRecDepth 20000 in
theorem e_changes (l : Launch) (G : Gl) (n : Nat) (ad : Nat → Nat) (E : Nat → va_E) (hN : 52 ≤ n) {io iz : Nat → Int32} (hE0 : E 0 = ob 8 (rfs ad [1, 6, 8, 48, 45, 51]) io) (hE6 : E 6 = ob 7 (rfs ad [7]) iz) (hz : (iz 1).toInt = 0) (z : Int32)  : CtI l G yX8_changes cX8_changes 3 .int 2 43 n ad E [.ref (ad 0), .int z] (fun r E' => (r.toInt = -1) ∧ Fr8 E E') := by
  refine CtI.of (by decide) (Nat.le_of_ble_eq_true rfl) (fun X A C => ?_)
  refine v_sub (lv' := [(0, .ref (ad 0)), (1, .int z)]) [0, 1] rfl ?_
  refine v_aload_n C 0 dX8_changes_0 rfl rfl ?_
  refine v_iload_n C 1 dX8_changes_1 rfl rfl ?_
  refine v_cVr C dX8_changes_2 lX8_153 mX8_freshZone 0 (by omega) hE0 (by decide) rfl (c_freshZone0 l G n ad _ hN hE0 hE6 hz z) ⟨by decide, by decide⟩ rfl (Nat.le_of_ble_eq_true rfl) ⟨Nat.zero_le _, Nat.zero_le _⟩ (fun r1 hp2 => ?_)
  subst hp2
  refine v_astore_nN (lv' := [(0, .ref (ad 0)), (1, .int z), (2, .null)]) C [1, 2, 0] dX8_changes_5 rfl (by decide) rfl ?_
  refine v_aload_nN C 2 dX8_changes_6 rfl rfl ?_
  refine v_ifnonnullN C dX8_changes_7 ?_
  refine v_iconst (v := (-1)) C dX8_changes_10 (by decide) ?_
  refine v_goto C 18 dX8_changes_11 (by decide) ?_
  exact v_ret C dX8_changes_18 rfl rfl ⟨(show _ by rw [show ((-1) : Int32).toInt = (-1) by decide]; (repeat first | rw [if_pos (by omega)] | rw [if_neg (by omega)]); try omega), (fun j hj => rfl)⟩

set_option maxRecDepth 20000 in
theorem e_change (l : Launch) (G : Gl) (n : Nat) (ad : Nat → Nat) (E : Nat → va_E) (hN : 52 ≤ n) {io iz : Nat → Int32} (hE0 : E 0 = ob 8 (rfs ad [1, 6, 8, 48, 45, 51]) io) (hE6 : E 6 = ob 7 (rfs ad [7]) iz) (hz : (iz 1).toInt = 0) (z : Int32) (i : Int32)  : CtI l G yX8_change cX8_change 4 .int 2 43 n ad E [.ref (ad 0), .int z, .int i] (fun r E' => (r.toInt = -1) ∧ Fr8 E E') := by
  refine CtI.of (by decide) (Nat.le_of_ble_eq_true rfl) (fun X A C => ?_)
  refine v_sub (lv' := [(0, .ref (ad 0)), (1, .int z), (2, .int i)]) [0, 1, 2] rfl ?_
  refine v_aload_n C 0 dX8_change_0 rfl rfl ?_
  refine v_iload_n C 1 dX8_change_1 rfl rfl ?_
  refine v_cVr C dX8_change_2 lX8_153 mX8_freshZone 0 (by omega) hE0 (by decide) rfl (c_freshZone0 l G n ad _ hN hE0 hE6 hz z) ⟨by decide, by decide⟩ rfl (Nat.le_of_ble_eq_true rfl) ⟨Nat.zero_le _, Nat.zero_le _⟩ (fun r1 hp2 => ?_)
  subst hp2
  refine v_astore_nN (lv' := [(0, .ref (ad 0)), (1, .int z), (2, .int i), (3, .null)]) C [1, 2, 3, 0] dX8_change_5 rfl (by decide) rfl ?_
  refine v_aload_nN C 3 dX8_change_6 rfl rfl ?_
  refine v_ifnullN C 22 dX8_change_7 (by decide) ?_
  refine v_iconst (v := (-1)) C dX8_change_22 (by decide) ?_
  exact v_ret C dX8_change_23 rfl rfl ⟨(show _ by rw [show ((-1) : Int32).toInt = (-1) by decide]; (repeat first | rw [if_pos (by omega)] | rw [if_neg (by omega)]); try omega), (fun j hj => rfl)⟩

set_option maxRecDepth 20000 in
theorem e_offset (l : Launch) (G : Gl) (n : Nat) (ad : Nat → Nat) (E : Nat → va_E) (hN : 52 ≤ n) {io iz : Nat → Int32} (hE0 : E 0 = ob 8 (rfs ad [1, 6, 8, 48, 45, 51]) io) (hE6 : E 6 = ob 7 (rfs ad [7]) iz) (hz : (iz 1).toInt = 0) (z : Int32) (m : Int32)  : CtI l G yX8_offset cX8_offset 4 .int 2 43 n ad E [.ref (ad 0), .int z, .int m] (fun r E' => (r.toInt = -9999) ∧ Fr8 E E') := by
  refine CtI.of (by decide) (Nat.le_of_ble_eq_true rfl) (fun X A C => ?_)
  refine v_sub (lv' := [(0, .ref (ad 0)), (1, .int z), (2, .int m)]) [0, 1, 2] rfl ?_
  refine v_aload_n C 0 dX8_offset_0 rfl rfl ?_
  refine v_iload_n C 1 dX8_offset_1 rfl rfl ?_
  refine v_cVr C dX8_offset_2 lX8_153 mX8_freshZone 0 (by omega) hE0 (by decide) rfl (c_freshZone0 l G n ad _ hN hE0 hE6 hz z) ⟨by decide, by decide⟩ rfl (Nat.le_of_ble_eq_true rfl) ⟨Nat.zero_le _, Nat.zero_le _⟩ (fun r1 hp2 => ?_)
  subst hp2
  refine v_astore_nN (lv' := [(0, .ref (ad 0)), (1, .int z), (2, .int m), (3, .null)]) C [1, 2, 3, 0] dX8_offset_5 rfl (by decide) rfl ?_
  refine v_aload_nN C 3 dX8_offset_6 rfl rfl ?_
  refine v_ifnullN C 17 dX8_offset_7 (by decide) ?_
  refine v_sipush (v := (-9999)) C dX8_offset_17 (by decide) ?_
  exact v_ret C dX8_offset_20 rfl rfl ⟨(show _ by rw [show ((-9999) : Int32).toInt = (-9999) by decide]; (repeat first | rw [if_pos (by omega)] | rw [if_neg (by omega)]); try omega), (fun j hj => rfl)⟩

set_option maxRecDepth 20000 in
theorem e_wall (l : Launch) (G : Gl) (n : Nat) (ad : Nat → Nat) (E : Nat → va_E) (hN : 52 ≤ n) {io iz : Nat → Int32} (hE0 : E 0 = ob 8 (rfs ad [1, 6, 8, 48, 45, 51]) io) (hE6 : E 6 = ob 7 (rfs ad [7]) iz) (hz : (iz 1).toInt = 0) (z : Int32) (m : Int32)  : CtI l G yX8_wall cX8_wall 5 .int 2 43 n ad E [.ref (ad 0), .int z, .int m] (fun r E' => (r.toInt = -1) ∧ Fr8 E E') := by
  refine CtI.of (by decide) (Nat.le_of_ble_eq_true rfl) (fun X A C => ?_)
  refine v_sub (lv' := [(0, .ref (ad 0)), (1, .int z), (2, .int m)]) [0, 1, 2] rfl ?_
  refine v_aload_n C 0 dX8_wall_0 rfl rfl ?_
  refine v_iload_n C 1 dX8_wall_1 rfl rfl ?_
  refine v_cVr C dX8_wall_2 lX8_153 mX8_freshZone 0 (by omega) hE0 (by decide) rfl (c_freshZone0 l G n ad _ hN hE0 hE6 hz z) ⟨by decide, by decide⟩ rfl (Nat.le_of_ble_eq_true rfl) ⟨Nat.zero_le _, Nat.zero_le _⟩ (fun r1 hp2 => ?_)
  subst hp2
  refine v_astore_nN (lv' := [(0, .ref (ad 0)), (1, .int z), (2, .int m), (3, .null)]) C [1, 2, 3, 0] dX8_wall_5 rfl (by decide) rfl ?_
  refine v_aload_nN C 3 dX8_wall_6 rfl rfl ?_
  refine v_ifnullN C 17 dX8_wall_7 (by decide) ?_
  refine v_iconst (v := (-1)) C dX8_wall_17 (by decide) ?_
  exact v_ret C dX8_wall_18 rfl rfl ⟨(show _ by rw [show ((-1) : Int32).toInt = (-1) by decide]; (repeat first | rw [if_pos (by omega)] | rw [if_neg (by omega)]); try omega), (fun j hj => rfl)⟩

set_option maxRecDepth 20000 in
theorem e_moments (l : Launch) (G : Gl) (n : Nat) (ad : Nat → Nat) (E : Nat → va_E) (hN : 52 ≤ n) {io iz : Nat → Int32} (hE0 : E 0 = ob 8 (rfs ad [1, 6, 8, 48, 45, 51]) io) (hE6 : E 6 = ob 7 (rfs ad [7]) iz) (hz : (iz 1).toInt = 0) (z : Int32) (w : Int32)  : CtI l G yX8_moments cX8_moments 4 .int 2 43 n ad E [.ref (ad 0), .int z, .int w] (fun r E' => (r.toInt = -1) ∧ Fr8 E E') := by
  refine CtI.of (by decide) (Nat.le_of_ble_eq_true rfl) (fun X A C => ?_)
  refine v_sub (lv' := [(0, .ref (ad 0)), (1, .int z), (2, .int w)]) [0, 1, 2] rfl ?_
  refine v_aload_n C 0 dX8_moments_0 rfl rfl ?_
  refine v_iload_n C 1 dX8_moments_1 rfl rfl ?_
  refine v_cVr C dX8_moments_2 lX8_153 mX8_freshZone 0 (by omega) hE0 (by decide) rfl (c_freshZone0 l G n ad _ hN hE0 hE6 hz z) ⟨by decide, by decide⟩ rfl (Nat.le_of_ble_eq_true rfl) ⟨Nat.zero_le _, Nat.zero_le _⟩ (fun r1 hp2 => ?_)
  subst hp2
  refine v_astore_nN (lv' := [(0, .ref (ad 0)), (1, .int z), (2, .int w), (3, .null)]) C [1, 2, 3, 0] dX8_moments_5 rfl (by decide) rfl ?_
  refine v_aload_nN C 3 dX8_moments_6 rfl rfl ?_
  refine v_ifnullN C 21 dX8_moments_7 (by decide) ?_
  refine v_iconst (v := (-1)) C dX8_moments_21 (by decide) ?_
  exact v_ret C dX8_moments_22 rfl rfl ⟨(show _ by rw [show ((-1) : Int32).toInt = (-1) by decide]; (repeat first | rw [if_pos (by omega)] | rw [if_neg (by omega)]); try omega), (fun j hj => rfl)⟩

set_option maxRecDepth 20000 in
theorem e_moment (l : Launch) (G : Gl) (n : Nat) (ad : Nat → Nat) (E : Nat → va_E) (hN : 52 ≤ n) {io iz : Nat → Int32} (hE0 : E 0 = ob 8 (rfs ad [1, 6, 8, 48, 45, 51]) io) (hE6 : E 6 = ob 7 (rfs ad [7]) iz) (hz : (iz 1).toInt = 0) (z : Int32) (w : Int32) (i : Int32)  : CtI l G yX8_moment cX8_moment 6 .int 2 43 n ad E [.ref (ad 0), .int z, .int w, .int i] (fun r E' => (r.toInt = -1) ∧ Fr8 E E') := by
  refine CtI.of (by decide) (Nat.le_of_ble_eq_true rfl) (fun X A C => ?_)
  refine v_sub (lv' := [(0, .ref (ad 0)), (1, .int z), (2, .int w), (3, .int i)]) [0, 1, 2, 3] rfl ?_
  refine v_aload_n C 0 dX8_moment_0 rfl rfl ?_
  refine v_iload_n C 1 dX8_moment_1 rfl rfl ?_
  refine v_cVr C dX8_moment_2 lX8_153 mX8_freshZone 0 (by omega) hE0 (by decide) rfl (c_freshZone0 l G n ad _ hN hE0 hE6 hz z) ⟨by decide, by decide⟩ rfl (Nat.le_of_ble_eq_true rfl) ⟨Nat.zero_le _, Nat.zero_le _⟩ (fun r1 hp2 => ?_)
  subst hp2
  refine v_astoreN (lv' := [(0, .ref (ad 0)), (1, .int z), (2, .int w), (3, .int i), (4, .null)]) C [1, 2, 3, 4, 0] dX8_moment_5 (by decide) rfl ?_
  refine v_aloadN C 4 dX8_moment_7 rfl ?_
  refine v_ifnullN C 23 dX8_moment_9 (by decide) ?_
  refine v_iconst (v := (-1)) C dX8_moment_23 (by decide) ?_
  exact v_ret C dX8_moment_24 rfl rfl ⟨(show _ by rw [show ((-1) : Int32).toInt = (-1) by decide]; (repeat first | rw [if_pos (by omega)] | rw [if_neg (by omega)]); try omega), (fun j hj => rfl)⟩

set_option maxRecDepth 20000 in
theorem e_meetings (l : Launch) (G : Gl) (n : Nat) (ad : Nat → Nat) (E : Nat → va_E) (hN : 52 ≤ n) {io iz : Nat → Int32} (hE0 : E 0 = ob 8 (rfs ad [1, 6, 8, 48, 45, 51]) io) (hE6 : E 6 = ob 7 (rfs ad [7]) iz) (hz : (iz 1).toInt = 0) (z : Int32) (a : Int32) (p : Int32) (q : Int32) (w : Int32)  : CtI l G yX8_meetings cX8_meetings 12 .int 2 43 n ad E [.ref (ad 0), .int z, .int a, .int p, .int q, .int w] (fun r E' => (r.toInt = -1) ∧ Fr8 E E') := by
  refine CtI.of (by decide) (Nat.le_of_ble_eq_true rfl) (fun X A C => ?_)
  refine v_sub (lv' := [(0, .ref (ad 0)), (1, .int z), (2, .int a), (3, .int p), (4, .int q), (5, .int w)]) [0, 1, 2, 3, 4, 5] rfl ?_
  refine v_aload_n C 0 dX8_meetings_0 rfl rfl ?_
  refine v_iload_n C 1 dX8_meetings_1 rfl rfl ?_
  refine v_cVr C dX8_meetings_2 lX8_153 mX8_freshZone 0 (by omega) hE0 (by decide) rfl (c_freshZone0 l G n ad _ hN hE0 hE6 hz z) ⟨by decide, by decide⟩ rfl (Nat.le_of_ble_eq_true rfl) ⟨Nat.zero_le _, Nat.zero_le _⟩ (fun r1 hp2 => ?_)
  subst hp2
  refine v_astoreN (lv' := [(0, .ref (ad 0)), (1, .int z), (2, .int a), (3, .int p), (4, .int q), (5, .int w), (6, .null)]) C [1, 2, 3, 4, 5, 6, 0] dX8_meetings_5 (by decide) rfl ?_
  refine v_aloadN C 6 dX8_meetings_7 rfl ?_
  refine v_ifnullN C 40 dX8_meetings_9 (by decide) ?_
  refine v_iconst (v := (-1)) C dX8_meetings_40 (by decide) ?_
  exact v_ret C dX8_meetings_41 rfl rfl ⟨(show _ by rw [show ((-1) : Int32).toInt = (-1) by decide]; (repeat first | rw [if_pos (by omega)] | rw [if_neg (by omega)]); try omega), (fun j hj => rfl)⟩

set_option maxRecDepth 20000 in
theorem e_mix (l : Launch) (G : Gl) (n : Nat) (ad : Nat → Nat) (E : Nat → va_E) (hN : 52 ≤ n) {io iz : Nat → Int32} (hE0 : E 0 = ob 8 (rfs ad [1, 6, 8, 48, 45, 51]) io) (hE6 : E 6 = ob 7 (rfs ad [7]) iz) (hz : (iz 1).toInt = 0) {fp : Nat → Option Nat} (hE8 : E 8 = aQ G 4 6 fp) (hfp : ∀ i, i < 6 → fp i = some (ad (9 + 6 * i))) (hPr : ∀ i, i < 6 → E (9 + 6 * i) = ob 5 (rP ad (9 + 6 * i)) ip0) (p : Int32)  : CtI l G yX8_mix cX8_mix 3 .int 1 21 n ad E [.ref (ad 0), .int p] (fun r E' => (r.toInt = if okPr p.toInt then 0 else -1) ∧ Fr8 E E') := by
  refine CtI.of (by decide) (Nat.le_of_ble_eq_true rfl) (fun X A C => ?_)
  refine v_sub (lv' := [(0, .ref (ad 0)), (1, .int p)]) [0, 1] rfl ?_
  refine v_aload_n C 0 dX8_mix_0 rfl rfl ?_
  refine v_iload_n C 1 dX8_mix_1 rfl rfl ?_
  refine v_cVr C dX8_mix_2 lX8_177 mX8_programAt 0 (by omega) hE0 (by decide) rfl (c_programAt l G n ad _ hN hE0 hE8 hfp p) ⟨by decide, by decide⟩ rfl (Nat.le_of_ble_eq_true rfl) ⟨Nat.zero_le _, Nat.zero_le _⟩ (fun r1 hp2 => ?_)
  unfold okPr at hp2
  rcases hp2 with ⟨hno, rfl⟩ | ⟨hyes, i, hi, hpi, rfl⟩
  · refine v_astore_nN (lv' := [(0, .ref (ad 0)), (1, .int p), (2, .null)]) C [1, 2, 0] dX8_mix_5 rfl (by decide) rfl ?_
    refine v_aload_nN C 2 dX8_mix_6 rfl rfl ?_
    refine v_ifnonnullN C dX8_mix_7 ?_
    refine v_iconst (v := (-1)) C dX8_mix_10 (by decide) ?_
    exact v_ret C dX8_mix_11 rfl rfl ⟨(show _ by rw [show ((-1) : Int32).toInt = (-1) by decide]; unfold okPr; (repeat first | rw [if_pos (by omega)] | rw [if_neg (by omega)]); try omega), (fun j hj => rfl)⟩
  · have hPi := hPr i hi
    refine v_astore_n (lv' := [(0, .ref (ad 0)), (1, .int p), (2, .ref (ad (9 + 6 * i)))]) C [1, 2, 0] dX8_mix_5 rfl (by decide) rfl ?_
    refine v_aload_n C 2 dX8_mix_6 rfl rfl ?_
    refine v_ifnonnull C 12 dX8_mix_7 (by decide) ?_
    refine v_aload_n C 2 dX8_mix_12 rfl rfl ?_
    refine v_geti (v := 0) C (9 + 6 * i) dX8_mix_13 fX8_198 (by omega) hPi rfl rfl ?_
    refine v_iconst (v := (-1)) C dX8_mix_16 (by decide) ?_
    refine b_icmp_ne C 25 dX8_mix_17 (by decide) (show (0 : Int32).toInt = 0 by decide) (show ((-1) : Int32).toInt = (-1) by decide) (fun c3 => ?_) (fun c3 => absurd c3 (by decide))
    refine v_aload_n C 2 dX8_mix_25 rfl rfl ?_
    refine v_geti (v := 0) C (9 + 6 * i) dX8_mix_26 fX8_198 (by omega) hPi rfl rfl ?_
    exact v_ret C dX8_mix_29 rfl rfl ⟨(show _ by rw [show (0 : Int32).toInt = 0 by decide]; unfold okPr; (repeat first | rw [if_pos (by omega)] | rw [if_neg (by omega)]); try omega), (fun j hj => rfl)⟩

set_option maxRecDepth 20000 in
theorem e_kind (l : Launch) (G : Gl) (n : Nat) (ad : Nat → Nat) (E : Nat → va_E) (hN : 52 ≤ n) {io iz : Nat → Int32} (hE0 : E 0 = ob 8 (rfs ad [1, 6, 8, 48, 45, 51]) io) (hE6 : E 6 = ob 7 (rfs ad [7]) iz) (hz : (iz 1).toInt = 0) {fp : Nat → Option Nat} (hE8 : E 8 = aQ G 4 6 fp) (hfp : ∀ i, i < 6 → fp i = some (ad (9 + 6 * i))) (hPr : ∀ i, i < 6 → E (9 + 6 * i) = ob 5 (rP ad (9 + 6 * i)) ip0) (p : Int32)  : CtI l G yX8_kind cX8_kind 3 .int 1 21 n ad E [.ref (ad 0), .int p] (fun r E' => (r.toInt = if okPr p.toInt then -4 else -1) ∧ Fr8 E E') := by
  refine CtI.of (by decide) (Nat.le_of_ble_eq_true rfl) (fun X A C => ?_)
  refine v_sub (lv' := [(0, .ref (ad 0)), (1, .int p)]) [0, 1] rfl ?_
  refine v_aload_n C 0 dX8_kind_0 rfl rfl ?_
  refine v_iload_n C 1 dX8_kind_1 rfl rfl ?_
  refine v_cVr C dX8_kind_2 lX8_177 mX8_programAt 0 (by omega) hE0 (by decide) rfl (c_programAt l G n ad _ hN hE0 hE8 hfp p) ⟨by decide, by decide⟩ rfl (Nat.le_of_ble_eq_true rfl) ⟨Nat.zero_le _, Nat.zero_le _⟩ (fun r1 hp2 => ?_)
  unfold okPr at hp2
  rcases hp2 with ⟨hno, rfl⟩ | ⟨hyes, i, hi, hpi, rfl⟩
  · refine v_astore_nN (lv' := [(0, .ref (ad 0)), (1, .int p), (2, .null)]) C [1, 2, 0] dX8_kind_5 rfl (by decide) rfl ?_
    refine v_aload_nN C 2 dX8_kind_6 rfl rfl ?_
    refine v_ifnonnullN C dX8_kind_7 ?_
    refine v_iconst (v := (-1)) C dX8_kind_10 (by decide) ?_
    exact v_ret C dX8_kind_11 rfl rfl ⟨(show _ by rw [show ((-1) : Int32).toInt = (-1) by decide]; unfold okPr; (repeat first | rw [if_pos (by omega)] | rw [if_neg (by omega)]); try omega), (fun j hj => rfl)⟩
  · have hPi := hPr i hi
    refine v_astore_n (lv' := [(0, .ref (ad 0)), (1, .int p), (2, .ref (ad (9 + 6 * i)))]) C [1, 2, 0] dX8_kind_5 rfl (by decide) rfl ?_
    refine v_aload_n C 2 dX8_kind_6 rfl rfl ?_
    refine v_ifnonnull C 12 dX8_kind_7 (by decide) ?_
    refine v_aload_n C 2 dX8_kind_12 rfl rfl ?_
    refine v_geti (v := 0) C (9 + 6 * i) dX8_kind_13 fX8_198 (by omega) hPi rfl rfl ?_
    refine v_iconst (v := (-1)) C dX8_kind_16 (by decide) ?_
    refine b_icmp_ne C 27 dX8_kind_17 (by decide) (show (0 : Int32).toInt = 0 by decide) (show ((-1) : Int32).toInt = (-1) by decide) (fun c3 => ?_) (fun c3 => absurd c3 (by decide))
    refine v_bipush (v := (-4)) C dX8_kind_27 (by decide) ?_
    exact v_ret C dX8_kind_29 rfl rfl ⟨(show _ by rw [show ((-4) : Int32).toInt = (-4) by decide]; unfold okPr; (repeat first | rw [if_pos (by omega)] | rw [if_neg (by omega)]); try omega), (fun j hj => rfl)⟩

set_option maxRecDepth 20000 in
theorem e_run (l : Launch) (G : Gl) (n : Nat) (ad : Nat → Nat) (E : Nat → va_E) (hN : 52 ≤ n) {io iz : Nat → Int32} (hE0 : E 0 = ob 8 (rfs ad [1, 6, 8, 48, 45, 51]) io) (hE6 : E 6 = ob 7 (rfs ad [7]) iz) (hz : (iz 1).toInt = 0) {fp : Nat → Option Nat} (hE8 : E 8 = aQ G 4 6 fp) (hfp : ∀ i, i < 6 → fp i = some (ad (9 + 6 * i))) (hPr : ∀ i, i < 6 → E (9 + 6 * i) = ob 5 (rP ad (9 + 6 * i)) ip0) (p : Int32) (m : Int32)  : CtI l G yX8_run cX8_run 4 .int 1 21 n ad E [.ref (ad 0), .int p, .int m] (fun r E' => (r.toInt = -2000000000) ∧ Fr8 E E') := by
  refine CtI.of (by decide) (Nat.le_of_ble_eq_true rfl) (fun X A C => ?_)
  refine v_sub (lv' := [(0, .ref (ad 0)), (1, .int p), (2, .int m)]) [0, 1, 2] rfl ?_
  refine v_aload_n C 0 dX8_run_0 rfl rfl ?_
  refine v_iload_n C 1 dX8_run_1 rfl rfl ?_
  refine v_cVr C dX8_run_2 lX8_177 mX8_programAt 0 (by omega) hE0 (by decide) rfl (c_programAt l G n ad _ hN hE0 hE8 hfp p) ⟨by decide, by decide⟩ rfl (Nat.le_of_ble_eq_true rfl) ⟨Nat.zero_le _, Nat.zero_le _⟩ (fun r1 hp2 => ?_)
  unfold okPr at hp2
  rcases hp2 with ⟨hno, rfl⟩ | ⟨hyes, i, hi, hpi, rfl⟩
  · refine v_astore_nN (lv' := [(0, .ref (ad 0)), (1, .int p), (2, .int m), (3, .null)]) C [1, 2, 3, 0] dX8_run_5 rfl (by decide) rfl ?_
    refine v_aload_nN C 3 dX8_run_6 rfl rfl ?_
    refine v_ifnullN C 25 dX8_run_7 (by decide) ?_
    refine v_ldc C dX8_run_25 kX8_204 ?_
    exact v_ret C dX8_run_27 rfl rfl ⟨(show _ by rw [show ((-2000000000) : Int32).toInt = (-2000000000) by decide]; (repeat first | rw [if_pos (by omega)] | rw [if_neg (by omega)]); try omega), (fun j hj => rfl)⟩
  · have hPi := hPr i hi
    refine v_astore_n (lv' := [(0, .ref (ad 0)), (1, .int p), (2, .int m), (3, .ref (ad (9 + 6 * i)))]) C [1, 2, 3, 0] dX8_run_5 rfl (by decide) rfl ?_
    refine v_aload_n C 3 dX8_run_6 rfl rfl ?_
    refine v_ifnull C dX8_run_7 ?_
    refine v_iload_n C 2 dX8_run_10 rfl rfl ?_
    refine v_cSp C dX8_run_11 lX8_162 mX8_isMoment (c_isMoment l G n ad _ m) ⟨by decide, by decide⟩ rfl (Nat.le_of_ble_eq_true rfl) ⟨Nat.zero_le _, Nat.zero_le _⟩ (fun r4 hp3 => ?_)
    rcases hp3 with ⟨rfl, hp3⟩ | ⟨rfl, hp3⟩
    · refine b_if_eq C 25 dX8_run_14 (by decide) (show (1 : Int32).toInt = 1 by decide) (fun c5 => absurd c5 (by decide)) (fun c5 => ?_)
      refine v_aload_n C 3 dX8_run_17 rfl rfl ?_
      refine v_geti (v := 0) C (9 + 6 * i) dX8_run_18 fX8_198 (by omega) hPi rfl rfl ?_
      refine v_iconst (v := (-1)) C dX8_run_21 (by decide) ?_
      refine b_icmp_eq C 28 dX8_run_22 (by decide) (show (0 : Int32).toInt = 0 by decide) (show ((-1) : Int32).toInt = (-1) by decide) (fun c6 => absurd c6 (by decide)) (fun c6 => ?_)
      refine v_ldc C dX8_run_25 kX8_204 ?_
      exact v_ret C dX8_run_27 rfl rfl ⟨(show _ by rw [show ((-2000000000) : Int32).toInt = (-2000000000) by decide]; (repeat first | rw [if_pos (by omega)] | rw [if_neg (by omega)]); try omega), (fun j hj => rfl)⟩
    · refine b_if_eq C 25 dX8_run_14 (by decide) (show (0 : Int32).toInt = 0 by decide) (fun c7 => ?_) (fun c7 => absurd c7 (by decide))
      refine v_ldc C dX8_run_25 kX8_204 ?_
      exact v_ret C dX8_run_27 rfl rfl ⟨(show _ by rw [show ((-2000000000) : Int32).toInt = (-2000000000) by decide]; (repeat first | rw [if_pos (by omega)] | rw [if_neg (by omega)]); try omega), (fun j hj => rfl)⟩

set_option maxRecDepth 20000 in
theorem c_isLaw0 (l : Launch) (G : Gl) (n : Nat) (ad : Nat → Nat) (E : Nat → va_E) (hN : 52 ≤ n) {io iz : Nat → Int32} (hE0 : E 0 = ob 8 (rfs ad [1, 6, 8, 48, 45, 51]) io) (hE6 : E 6 = ob 7 (rfs ad [7]) iz) (hz : (iz 1).toInt = 0) (w v : Int32)  : CtI l G yX8_isLaw cX8_isLaw 5 .boolean 1 20 n ad E [.ref (ad 0), .int w, .int v] (fun r E' => ((r = 1 ∧ (okLaw w.toInt v.toInt)) ∨ (r = 0 ∧ ¬ (okLaw w.toInt v.toInt))) ∧ E = E') := by
  refine CtI.of (by decide) (Nat.le_of_ble_eq_true rfl) (fun X A C => ?_)
  refine v_sub (lv' := [(0, .ref (ad 0)), (1, .int w), (2, .int v)]) [0, 1, 2] rfl ?_
  refine v_iload_n C 1 dX8_isLaw_0 rfl rfl ?_
  refine v_bipush (v := 10) C dX8_isLaw_1 (by decide) ?_
  refine v_irem C dX8_isLaw_3 (by decide) ?_
  refine v_top (fun x1 ex1 => ?_)
  refine v_istore_n (lv' := [(0, .ref (ad 0)), (1, .int w), (2, .int v), (3, .int x1)]) C [1, 2, 3, 0] dX8_isLaw_4 rfl (by decide) rfl ?_
  refine v_iload_n C 1 dX8_isLaw_5 rfl rfl ?_
  refine v_bipush (v := 10) C dX8_isLaw_6 (by decide) ?_
  refine v_idiv C dX8_isLaw_8 (by decide) ?_
  refine v_top (fun x2 ex2 => ?_)
  refine v_istore (lv' := [(0, .ref (ad 0)), (1, .int w), (2, .int v), (3, .int x1), (4, .int x2)]) C [1, 2, 3, 4, 0] dX8_isLaw_9 (by decide) rfl ?_
  refine v_iload_n C 1 dX8_isLaw_11 rfl rfl ?_
  refine b_if_lt C 20 dX8_isLaw_12 (by decide) (rfl : Int32.toInt w = _) (fun c3 => ?_) (fun c3 => ?_)
  · refine v_iconst (v := 0) C dX8_isLaw_20 (by decide) ?_
    exact v_ret C dX8_isLaw_21 rfl rfl ⟨Or.inr ⟨rfl, by unfold okLaw; omega⟩, rfl⟩
  · have hx1 : x1.toInt = w.toInt % 10 := by rw [ex1]; exact ti_rem rfl (show (10 : Int32).toInt = 10 by decide) (by omega) (by omega)
    have hx2 : x2.toInt = w.toInt / 10 := by rw [ex2]; exact ti_div rfl (show (10 : Int32).toInt = 10 by decide) (by omega) (by omega)
    refine v_iload_n C 3 dX8_isLaw_15 rfl rfl ?_
    refine v_iconst (v := 5) C dX8_isLaw_16 (by decide) ?_
    refine b_icmp_lt C 22 dX8_isLaw_17 (by decide) hx1 (show (5 : Int32).toInt = 5 by decide) (fun c4 => ?_) (fun c4 => ?_)
    · refine v_iload_n C 3 dX8_isLaw_22 rfl rfl ?_
      have q5v : Int32.toInt x1 = (w.toInt % 10) := hx1
      rcases (show (w.toInt % 10) = 0 ∨ (w.toInt % 10) = 1 ∨ (w.toInt % 10) = 2 ∨ (w.toInt % 10) = 3 ∨ ((w.toInt % 10) < 0 ∨ 3 < (w.toInt % 10)) by omega) with q5 | q5 | q5 | q5 | q5
      · refine v_tableIn (off := 76) C 99 dX8_isLaw_23 (by omega) (by omega) (by rw [q5v, q5]; rfl) (by decide) ?_
        refine v_iload C 4 dX8_isLaw_99 rfl ?_
        refine b_if_ne C 108 dX8_isLaw_101 (by decide) hx2 (fun c6 => ?_) (fun c6 => ?_)
        · refine v_iconst (v := 0) C dX8_isLaw_108 (by decide) ?_
          exact v_ret C dX8_isLaw_109 rfl rfl ⟨Or.inr ⟨rfl, by unfold okLaw; omega⟩, rfl⟩
        · refine v_iconst (v := 1) C dX8_isLaw_104 (by decide) ?_
          refine v_goto C 109 dX8_isLaw_105 (by decide) ?_
          exact v_ret C dX8_isLaw_109 rfl rfl ⟨Or.inl ⟨rfl, by unfold okLaw; omega⟩, rfl⟩
      · refine v_tableIn (off := 29) C 52 dX8_isLaw_23 (by omega) (by omega) (by rw [q5v, q5]; rfl) (by decide) ?_
        refine v_iload C 4 dX8_isLaw_52 rfl ?_
        refine v_aload_n C 0 dX8_isLaw_54 rfl rfl ?_
        refine v_getr C 0 dX8_isLaw_55 fX8_19 (by omega) hE0 rfl rfl ?_
        refine v_geti (v := iz 1) C 6 dX8_isLaw_58 fX8_64 (by omega) hE6 rfl rfl ?_
        refine b_icmp_ge C 75 dX8_isLaw_61 (by decide) hx2 hz (fun c7 => ?_) (fun c7 => ?_)
        · refine v_iconst (v := 0) C dX8_isLaw_75 (by decide) ?_
          exact v_ret C dX8_isLaw_76 rfl rfl ⟨Or.inr ⟨rfl, by unfold okLaw; omega⟩, rfl⟩
        · refine v_iload_n C 2 dX8_isLaw_64 rfl rfl ?_
          refine v_cSp C dX8_isLaw_65 lX8_136 mX8_isMinute (c_isMinute l G n ad _ v) ⟨by decide, by decide⟩ rfl (Nat.le_of_ble_eq_true rfl) ⟨Nat.zero_le _, Nat.zero_le _⟩ (fun r9 hp8 => ?_)
          rcases hp8 with ⟨rfl, hp8⟩ | ⟨rfl, hp8⟩
          · refine b_if_eq C 75 dX8_isLaw_68 (by decide) (show (1 : Int32).toInt = 1 by decide) (fun c10 => absurd c10 (by decide)) (fun c10 => ?_)
            refine v_iconst (v := 1) C dX8_isLaw_71 (by decide) ?_
            refine v_goto C 76 dX8_isLaw_72 (by decide) ?_
            exact v_ret C dX8_isLaw_76 rfl rfl ⟨Or.inl ⟨rfl, by unfold okLaw; omega⟩, rfl⟩
          · refine b_if_eq C 75 dX8_isLaw_68 (by decide) (show (0 : Int32).toInt = 0 by decide) (fun c11 => ?_) (fun c11 => absurd c11 (by decide))
            refine v_iconst (v := 0) C dX8_isLaw_75 (by decide) ?_
            exact v_ret C dX8_isLaw_76 rfl rfl ⟨Or.inr ⟨rfl, by unfold okLaw; omega⟩, rfl⟩
      · refine v_tableIn (off := 54) C 77 dX8_isLaw_23 (by omega) (by omega) (by rw [q5v, q5]; rfl) (by decide) ?_
        refine v_iload C 4 dX8_isLaw_77 rfl ?_
        refine v_aload_n C 0 dX8_isLaw_79 rfl rfl ?_
        refine v_getr C 0 dX8_isLaw_80 fX8_19 (by omega) hE0 rfl rfl ?_
        refine v_geti (v := iz 1) C 6 dX8_isLaw_83 fX8_64 (by omega) hE6 rfl rfl ?_
        refine b_icmp_ge C 97 dX8_isLaw_86 (by decide) hx2 hz (fun c12 => ?_) (fun c12 => ?_)
        · refine v_iconst (v := 0) C dX8_isLaw_97 (by decide) ?_
          exact v_ret C dX8_isLaw_98 rfl rfl ⟨Or.inr ⟨rfl, by unfold okLaw; omega⟩, rfl⟩
        · refine v_iload_n C 2 dX8_isLaw_89 rfl rfl ?_
          refine b_if_ne C 97 dX8_isLaw_90 (by decide) (rfl : Int32.toInt v = _) (fun c13 => ?_) (fun c13 => ?_)
          · refine v_iconst (v := 0) C dX8_isLaw_97 (by decide) ?_
            exact v_ret C dX8_isLaw_98 rfl rfl ⟨Or.inr ⟨rfl, by unfold okLaw; omega⟩, rfl⟩
          · refine v_iconst (v := 1) C dX8_isLaw_93 (by decide) ?_
            refine v_goto C 98 dX8_isLaw_94 (by decide) ?_
            exact v_ret C dX8_isLaw_98 rfl rfl ⟨Or.inl ⟨rfl, by unfold okLaw; omega⟩, rfl⟩
      · refine v_tableIn (off := 76) C 99 dX8_isLaw_23 (by omega) (by omega) (by rw [q5v, q5]; rfl) (by decide) ?_
        refine v_iload C 4 dX8_isLaw_99 rfl ?_
        refine b_if_ne C 108 dX8_isLaw_101 (by decide) hx2 (fun c14 => ?_) (fun c14 => ?_)
        · refine v_iconst (v := 0) C dX8_isLaw_108 (by decide) ?_
          exact v_ret C dX8_isLaw_109 rfl rfl ⟨Or.inr ⟨rfl, by unfold okLaw; omega⟩, rfl⟩
        · refine v_iconst (v := 1) C dX8_isLaw_104 (by decide) ?_
          refine v_goto C 109 dX8_isLaw_105 (by decide) ?_
          exact v_ret C dX8_isLaw_109 rfl rfl ⟨Or.inl ⟨rfl, by unfold okLaw; omega⟩, rfl⟩
      · refine v_tableOut C 110 dX8_isLaw_23 (by omega) (by decide) ?_
        refine v_iload C 4 dX8_isLaw_110 rfl ?_
        refine b_if_ne C 123 dX8_isLaw_112 (by decide) hx2 (fun c15 => ?_) (fun c15 => ?_)
        · refine v_iconst (v := 0) C dX8_isLaw_123 (by decide) ?_
          exact v_ret C dX8_isLaw_124 rfl rfl ⟨Or.inr ⟨rfl, by unfold okLaw; omega⟩, rfl⟩
        · refine v_iload_n C 2 dX8_isLaw_115 rfl rfl ?_
          refine b_if_ne C 123 dX8_isLaw_116 (by decide) (rfl : Int32.toInt v = _) (fun c16 => ?_) (fun c16 => ?_)
          · refine v_iconst (v := 0) C dX8_isLaw_123 (by decide) ?_
            exact v_ret C dX8_isLaw_124 rfl rfl ⟨Or.inr ⟨rfl, by unfold okLaw; omega⟩, rfl⟩
          · refine v_iconst (v := 1) C dX8_isLaw_119 (by decide) ?_
            refine v_goto C 124 dX8_isLaw_120 (by decide) ?_
            exact v_ret C dX8_isLaw_124 rfl rfl ⟨Or.inl ⟨rfl, by unfold okLaw; omega⟩, rfl⟩
    · refine v_iconst (v := 0) C dX8_isLaw_20 (by decide) ?_
      exact v_ret C dX8_isLaw_21 rfl rfl ⟨Or.inr ⟨rfl, by unfold okLaw; omega⟩, rfl⟩

set_option maxRecDepth 20000 in
theorem e_keeps (l : Launch) (G : Gl) (n : Nat) (ad : Nat → Nat) (E : Nat → va_E) (hN : 52 ≤ n) {io iz : Nat → Int32} (hE0 : E 0 = ob 8 (rfs ad [1, 6, 8, 48, 45, 51]) io) (hE6 : E 6 = ob 7 (rfs ad [7]) iz) (hz : (iz 1).toInt = 0) {fp : Nat → Option Nat} (hE8 : E 8 = aQ G 4 6 fp) (hfp : ∀ i, i < 6 → fp i = some (ad (9 + 6 * i))) (hPr : ∀ i, i < 6 → E (9 + 6 * i) = ob 5 (rP ad (9 + 6 * i)) ip0) (p : Int32) (w : Int32) (v : Int32) (m : Int32)  : CtI l G yX8_keeps cX8_keeps 6 .int 2 44 n ad E [.ref (ad 0), .int p, .int w, .int v, .int m] (fun r E' => (r.toInt = if okPr p.toInt ∧ okLaw w.toInt v.toInt ∧ okMom m.toInt then -4 else -1) ∧ Fr8 E E') := by
  refine CtI.of (by decide) (Nat.le_of_ble_eq_true rfl) (fun X A C => ?_)
  refine v_sub (lv' := [(0, .ref (ad 0)), (1, .int p), (2, .int w), (3, .int v), (4, .int m)]) [0, 1, 2, 3, 4] rfl ?_
  refine v_aload_n C 0 dX8_keeps_0 rfl rfl ?_
  refine v_iload_n C 1 dX8_keeps_1 rfl rfl ?_
  refine v_cVr C dX8_keeps_2 lX8_177 mX8_programAt 0 (by omega) hE0 (by decide) rfl (c_programAt l G n ad _ hN hE0 hE8 hfp p) ⟨by decide, by decide⟩ rfl (Nat.le_of_ble_eq_true rfl) ⟨Nat.zero_le _, Nat.zero_le _⟩ (fun r1 hp2 => ?_)
  unfold okPr at hp2
  rcases hp2 with ⟨hno, rfl⟩ | ⟨hyes, i, hi, hpi, rfl⟩
  · refine v_astoreN (lv' := [(0, .ref (ad 0)), (1, .int p), (2, .int w), (3, .int v), (4, .int m), (5, .null)]) C [1, 2, 3, 4, 5, 0] dX8_keeps_5 (by decide) rfl ?_
    refine v_aloadN C 5 dX8_keeps_7 rfl ?_
    refine v_ifnullN C 29 dX8_keeps_9 (by decide) ?_
    refine v_iconst (v := (-1)) C dX8_keeps_29 (by decide) ?_
    exact v_ret C dX8_keeps_30 rfl rfl ⟨(show _ by rw [show ((-1) : Int32).toInt = (-1) by decide]; unfold okPr; unfold okLaw; unfold okMom; (repeat first | rw [if_pos (by omega)] | rw [if_neg (by omega)]); try omega), (fun j hj => rfl)⟩
  · have hPi := hPr i hi
    refine v_astore (lv' := [(0, .ref (ad 0)), (1, .int p), (2, .int w), (3, .int v), (4, .int m), (5, .ref (ad (9 + 6 * i)))]) C [1, 2, 3, 4, 5, 0] dX8_keeps_5 (by decide) rfl ?_
    refine v_aload C 5 dX8_keeps_7 rfl ?_
    refine v_ifnull C dX8_keeps_9 ?_
    refine v_aload_n C 0 dX8_keeps_12 rfl rfl ?_
    refine v_iload_n C 2 dX8_keeps_13 rfl rfl ?_
    refine v_iload_n C 3 dX8_keeps_14 rfl rfl ?_
    refine v_cVp C dX8_keeps_15 lX8_219 mX8_isLaw 0 (by omega) hE0 (by decide) rfl (c_isLaw0 l G n ad _ hN hE0 hE6 hz w v) ⟨by decide, by decide⟩ rfl (Nat.le_of_ble_eq_true rfl) ⟨Nat.zero_le _, Nat.zero_le _⟩ (fun r3 hp4 => ?_)
    unfold okLaw at hp4
    rcases hp4 with ⟨rfl, hp4⟩ | ⟨rfl, hp4⟩
    · refine b_if_eq C 29 dX8_keeps_18 (by decide) (show (1 : Int32).toInt = 1 by decide) (fun c5 => absurd c5 (by decide)) (fun c5 => ?_)
      refine v_iload C 4 dX8_keeps_21 rfl ?_
      refine v_cSp C dX8_keeps_23 lX8_162 mX8_isMoment (c_isMoment l G n ad _ m) ⟨by decide, by decide⟩ rfl (Nat.le_of_ble_eq_true rfl) ⟨Nat.zero_le _, Nat.zero_le _⟩ (fun r7 hp6 => ?_)
      rcases hp6 with ⟨rfl, hp6⟩ | ⟨rfl, hp6⟩
      · refine b_if_ne C 31 dX8_keeps_26 (by decide) (show (1 : Int32).toInt = 1 by decide) (fun c8 => ?_) (fun c8 => absurd c8 (by decide))
        refine v_aload C 5 dX8_keeps_31 rfl ?_
        refine v_geti (v := 0) C (9 + 6 * i) dX8_keeps_33 fX8_198 (by omega) hPi rfl rfl ?_
        refine v_iconst (v := (-1)) C dX8_keeps_36 (by decide) ?_
        refine b_icmp_eq C 43 dX8_keeps_37 (by decide) (show (0 : Int32).toInt = 0 by decide) (show ((-1) : Int32).toInt = (-1) by decide) (fun c9 => absurd c9 (by decide)) (fun c9 => ?_)
        refine v_bipush (v := (-4)) C dX8_keeps_40 (by decide) ?_
        exact v_ret C dX8_keeps_42 rfl rfl ⟨(show _ by rw [show ((-4) : Int32).toInt = (-4) by decide]; unfold okPr; unfold okLaw; unfold okMom; (repeat first | rw [if_pos (by omega)] | rw [if_neg (by omega)]); try omega), (fun j hj => rfl)⟩
      · refine b_if_ne C 31 dX8_keeps_26 (by decide) (show (0 : Int32).toInt = 0 by decide) (fun c10 => absurd c10 (by decide)) (fun c10 => ?_)
        refine v_iconst (v := (-1)) C dX8_keeps_29 (by decide) ?_
        exact v_ret C dX8_keeps_30 rfl rfl ⟨(show _ by rw [show ((-1) : Int32).toInt = (-1) by decide]; unfold okPr; unfold okLaw; unfold okMom; (repeat first | rw [if_pos (by omega)] | rw [if_neg (by omega)]); try omega), (fun j hj => rfl)⟩
    · refine b_if_eq C 29 dX8_keeps_18 (by decide) (show (0 : Int32).toInt = 0 by decide) (fun c11 => ?_) (fun c11 => absurd c11 (by decide))
      refine v_iconst (v := (-1)) C dX8_keeps_29 (by decide) ?_
      exact v_ret C dX8_keeps_30 rfl rfl ⟨(show _ by rw [show ((-1) : Int32).toInt = (-1) by decide]; unfold okPr; unfold okLaw; unfold okMom; (repeat first | rw [if_pos (by omega)] | rw [if_neg (by omega)]); try omega), (fun j hj => rfl)⟩

set_option maxRecDepth 20000 in
theorem e_least (l : Launch) (G : Gl) (n : Nat) (ad : Nat → Nat) (E : Nat → va_E) (hN : 52 ≤ n) {io iz : Nat → Int32} (hE0 : E 0 = ob 8 (rfs ad [1, 6, 8, 48, 45, 51]) io) (hE6 : E 6 = ob 7 (rfs ad [7]) iz) (hz : (iz 1).toInt = 0) {fp : Nat → Option Nat} (hE8 : E 8 = aQ G 4 6 fp) (hfp : ∀ i, i < 6 → fp i = some (ad (9 + 6 * i))) (hPr : ∀ i, i < 6 → E (9 + 6 * i) = ob 5 (rP ad (9 + 6 * i)) ip0) (p : Int32) (w : Int32) (v : Int32) (a : Int32) (m : Int32)  : CtI l G yX8_least cX8_least 8 .int 2 44 n ad E [.ref (ad 0), .int p, .int w, .int v, .int a, .int m] (fun r E' => (r.toInt = if okPr p.toInt ∧ okLaw w.toInt v.toInt ∧ okRch a.toInt m.toInt 2000000 then -4 else -1) ∧ Fr8 E E') := by
  refine CtI.of (by decide) (Nat.le_of_ble_eq_true rfl) (fun X A C => ?_)
  refine v_sub (lv' := [(0, .ref (ad 0)), (1, .int p), (2, .int w), (3, .int v), (4, .int a), (5, .int m)]) [0, 1, 2, 3, 4, 5] rfl ?_
  refine v_aload_n C 0 dX8_least_0 rfl rfl ?_
  refine v_iload_n C 1 dX8_least_1 rfl rfl ?_
  refine v_cVr C dX8_least_2 lX8_177 mX8_programAt 0 (by omega) hE0 (by decide) rfl (c_programAt l G n ad _ hN hE0 hE8 hfp p) ⟨by decide, by decide⟩ rfl (Nat.le_of_ble_eq_true rfl) ⟨Nat.zero_le _, Nat.zero_le _⟩ (fun r1 hp2 => ?_)
  unfold okPr at hp2
  rcases hp2 with ⟨hno, rfl⟩ | ⟨hyes, i, hi, hpi, rfl⟩
  · refine v_astoreN (lv' := [(0, .ref (ad 0)), (1, .int p), (2, .int w), (3, .int v), (4, .int a), (5, .int m), (6, .null)]) C [1, 2, 3, 4, 5, 6, 0] dX8_least_5 (by decide) rfl ?_
    refine v_aloadN C 6 dX8_least_7 rfl ?_
    refine v_ifnullN C 33 dX8_least_9 (by decide) ?_
    refine v_iconst (v := (-1)) C dX8_least_33 (by decide) ?_
    exact v_ret C dX8_least_34 rfl rfl ⟨(show _ by rw [show ((-1) : Int32).toInt = (-1) by decide]; unfold okPr; unfold okLaw; unfold okRch; (repeat first | rw [if_pos (by omega)] | rw [if_neg (by omega)]); try omega), (fun j hj => rfl)⟩
  · have hPi := hPr i hi
    refine v_astore (lv' := [(0, .ref (ad 0)), (1, .int p), (2, .int w), (3, .int v), (4, .int a), (5, .int m), (6, .ref (ad (9 + 6 * i)))]) C [1, 2, 3, 4, 5, 6, 0] dX8_least_5 (by decide) rfl ?_
    refine v_aload C 6 dX8_least_7 rfl ?_
    refine v_ifnull C dX8_least_9 ?_
    refine v_aload_n C 0 dX8_least_12 rfl rfl ?_
    refine v_iload_n C 2 dX8_least_13 rfl rfl ?_
    refine v_iload_n C 3 dX8_least_14 rfl rfl ?_
    refine v_cVp C dX8_least_15 lX8_219 mX8_isLaw 0 (by omega) hE0 (by decide) rfl (c_isLaw0 l G n ad _ hN hE0 hE6 hz w v) ⟨by decide, by decide⟩ rfl (Nat.le_of_ble_eq_true rfl) ⟨Nat.zero_le _, Nat.zero_le _⟩ (fun r3 hp4 => ?_)
    unfold okLaw at hp4
    rcases hp4 with ⟨rfl, hp4⟩ | ⟨rfl, hp4⟩
    · refine b_if_eq C 33 dX8_least_18 (by decide) (show (1 : Int32).toInt = 1 by decide) (fun c5 => absurd c5 (by decide)) (fun c5 => ?_)
      refine v_iload C 4 dX8_least_21 rfl ?_
      refine v_iload C 5 dX8_least_23 rfl ?_
      refine v_ldc C dX8_least_25 kX8_243 ?_
      refine v_cSp C dX8_least_27 lX8_244 mX8_isReach (c_isReach l G n ad _  a m 2000000 (by decide)) ⟨by decide, by decide⟩ rfl (Nat.le_of_ble_eq_true rfl) ⟨Nat.zero_le _, Nat.zero_le _⟩ (fun r6 hp7 => ?_)
      rw [(show (2000000 : Int32).toInt = 2000000 by decide)] at hp7
      unfold okRch at hp7
      rcases hp7 with ⟨rfl, hp7⟩ | ⟨rfl, hp7⟩
      · refine b_if_ne C 35 dX8_least_30 (by decide) (show (1 : Int32).toInt = 1 by decide) (fun c8 => ?_) (fun c8 => absurd c8 (by decide))
        refine v_aload C 6 dX8_least_35 rfl ?_
        refine v_geti (v := 0) C (9 + 6 * i) dX8_least_37 fX8_198 (by omega) hPi rfl rfl ?_
        refine v_iconst (v := (-1)) C dX8_least_40 (by decide) ?_
        refine b_icmp_eq C 47 dX8_least_41 (by decide) (show (0 : Int32).toInt = 0 by decide) (show ((-1) : Int32).toInt = (-1) by decide) (fun c9 => absurd c9 (by decide)) (fun c9 => ?_)
        refine v_bipush (v := (-4)) C dX8_least_44 (by decide) ?_
        exact v_ret C dX8_least_46 rfl rfl ⟨(show _ by rw [show ((-4) : Int32).toInt = (-4) by decide]; unfold okPr; unfold okLaw; unfold okRch; (repeat first | rw [if_pos (by omega)] | rw [if_neg (by omega)]); try omega), (fun j hj => rfl)⟩
      · refine b_if_ne C 35 dX8_least_30 (by decide) (show (0 : Int32).toInt = 0 by decide) (fun c10 => absurd c10 (by decide)) (fun c10 => ?_)
        refine v_iconst (v := (-1)) C dX8_least_33 (by decide) ?_
        exact v_ret C dX8_least_34 rfl rfl ⟨(show _ by rw [show ((-1) : Int32).toInt = (-1) by decide]; unfold okPr; unfold okLaw; unfold okRch; (repeat first | rw [if_pos (by omega)] | rw [if_neg (by omega)]); try omega), (fun j hj => rfl)⟩
    · refine b_if_eq C 33 dX8_least_18 (by decide) (show (0 : Int32).toInt = 0 by decide) (fun c11 => ?_) (fun c11 => absurd c11 (by decide))
      refine v_iconst (v := (-1)) C dX8_least_33 (by decide) ?_
      exact v_ret C dX8_least_34 rfl rfl ⟨(show _ by rw [show ((-1) : Int32).toInt = (-1) by decide]; unfold okPr; unfold okLaw; unfold okRch; (repeat first | rw [if_pos (by omega)] | rw [if_neg (by omega)]); try omega), (fun j hj => rfl)⟩

set_option maxRecDepth 20000 in
theorem e_mended (l : Launch) (G : Gl) (n : Nat) (ad : Nat → Nat) (E : Nat → va_E) (hN : 52 ≤ n) {io iz : Nat → Int32} (hE0 : E 0 = ob 8 (rfs ad [1, 6, 8, 48, 45, 51]) io) (hE6 : E 6 = ob 7 (rfs ad [7]) iz) (hz : (iz 1).toInt = 0) (hM : 68 ≤ n) {ix : Nat → Int32} (hE51 : E 51 = ob 3 (rfs ad [6, 48, 52, 58, 64, 65, 66, 67]) ix) (hE58 : E 58 = ob 5 (rP ad 58) ip0) (i : Int32) (w : Int32)  : CtI l G yX8_mended cX8_mended 4 .int 0 0 n ad E [.ref (ad 0), .int i, .int w] (fun r E' => (r.toInt = -2000000000) ∧ Fr8 E E') := by
  refine CtI.of (by decide) (Nat.le_of_ble_eq_true rfl) (fun X A C => ?_)
  refine v_sub (lv' := [(0, .ref (ad 0)), (1, .int i), (2, .int w)]) [0, 1, 2] rfl ?_
  refine v_aload_n C 0 dX8_mended_0 rfl rfl ?_
  refine v_getr C 0 dX8_mended_1 fX8_51 (by omega) hE0 rfl rfl ?_
  refine v_getr C 51 dX8_mended_4 fX8_255 (by omega) hE51 rfl rfl ?_
  refine v_astore_n (lv' := [(0, .ref (ad 0)), (1, .int i), (2, .int w), (3, .ref (ad 58))]) C [1, 2, 3, 0] dX8_mended_7 rfl (by decide) rfl ?_
  refine v_iload_n C 1 dX8_mended_8 rfl rfl ?_
  refine b_if_lt C 29 dX8_mended_9 (by decide) (rfl : Int32.toInt i = _) (fun c1 => ?_) (fun c1 => ?_)
  · refine v_ldc C dX8_mended_29 kX8_204 ?_
    exact v_ret C dX8_mended_31 rfl rfl ⟨(show _ by rw [show ((-2000000000) : Int32).toInt = (-2000000000) by decide]; (repeat first | rw [if_pos (by omega)] | rw [if_neg (by omega)]); try omega), (fun j hj => rfl)⟩
  · refine v_iload_n C 1 dX8_mended_12 rfl rfl ?_
    refine v_aload_n C 3 dX8_mended_13 rfl rfl ?_
    refine v_geti (v := 0) C 58 dX8_mended_14 fX8_181 (by omega) hE58 rfl rfl ?_
    refine b_icmp_ge C 29 dX8_mended_17 (by decide) (rfl : Int32.toInt i = _) (show (0 : Int32).toInt = 0 by decide) (fun c2 => ?_) (fun c2 => by exfalso; omega)
    refine v_ldc C dX8_mended_29 kX8_204 ?_
    exact v_ret C dX8_mended_31 rfl rfl ⟨(show _ by rw [show ((-2000000000) : Int32).toInt = (-2000000000) by decide]; (repeat first | rw [if_pos (by omega)] | rw [if_neg (by omega)]); try omega), (fun j hj => rfl)⟩

