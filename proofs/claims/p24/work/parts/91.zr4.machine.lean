set_option maxRecDepth 20000 in
theorem g_zoneAt (l : Launch) (G : Gl) (n : Nat) (ad : Nat → Nat) (E : Nat → va_E) (hn : 98 ≤ n) {iz : Nat → Int32} {fz : Nat → Option Nat} (h6 : E 6 = ob 7 (rfs ad [7]) iz) {k : Nat} (hzk : (iz 1).toInt = (k : Int)) (h7 : E 7 = aQ G 3 5 fz) (hfz : ∀ i, i < k → fz i = some (ad (98 + 9 * i))) (hk5 : k ≤ 5) (x : Int32) : CtQ l G yX7_at cX7_at 2 (.object "OddHours$Zone") 0 0 (n) ad E [.ref (ad 6), .int x] (fun r E' => ((¬ (0 ≤ x.toInt ∧ x.toInt < (k : Int)) ∧ r = none) ∨ ∃ i : Nat, (i : Int) = x.toInt ∧ i < k ∧ r = some (ad (98 + 9 * i))) ∧ E = E') := by
  refine CtQ.of (by decide) (Nat.le_of_ble_eq_true rfl) (fun X A C => ?_)
  refine v_sub (lv' := [(0, .ref (ad 6)), (1, .int x)]) [0, 1] rfl ?_
  refine v_iload_n C 1 dX7_at_0 rfl rfl ?_
  refine b_if_lt C 21 dX7_at_1 (by decide) (rfl : Int32.toInt x = _) (fun c1 => ?_) (fun c1 => ?_)
  · refine v_null C dX7_at_21 ?_
    exact v_qret (v := none) C dX7_at_22 rfl ⟨Or.inl ⟨by omega, rfl⟩, rfl⟩
  · refine v_iload_n C 1 dX7_at_4 rfl rfl ?_
    refine v_aload_n C 0 dX7_at_5 rfl rfl ?_
    refine v_geti (v := iz 1) C 6 dX7_at_6 fX7_17 (by omega) h6 rfl rfl ?_
    refine b_icmp_ge C 21 dX7_at_9 (by decide) (rfl : Int32.toInt x = _) hzk (fun c2 => ?_) (fun c2 => ?_)
    · refine v_null C dX7_at_21 ?_
      exact v_qret (v := none) C dX7_at_22 rfl ⟨Or.inl ⟨by omega, rfl⟩, rfl⟩
    · refine v_aload_n C 0 dX7_at_12 rfl rfl ?_
      refine v_getr C 6 dX7_at_13 fX7_11 (by omega) h6 rfl rfl ?_
      refine v_iload_n C 1 dX7_at_16 rfl rfl ?_
      refine v_aldZ (v := fz x.toInt.toNat) C 7 dX7_at_17 (by omega) h7 (ti_in (rfl : Int32.toInt x = _) (by omega) (by omega)) (by rw [ti_cl (rfl : Int32.toInt x = _)]) ?_
      refine v_goto C 22 dX7_at_18 (by decide) ?_
      exact v_qret C dX7_at_22 rfl ⟨Or.inr ⟨x.toInt.toNat, by omega, by omega, hfz _ (by omega)⟩, rfl⟩

set_option maxRecDepth 20000 in
theorem g_isWithin (l : Launch) (G : Gl) (n : Nat) (ad : Nat → Nat) (E : Nat → va_E) {k : Nat} {ic md : Nat → Int32} {TT : Nat → TST} (hK : KSt G ad k ic md TT E) (q : Int32) (v : Int32) : CtI l G yX2_isWithin cX2_isWithin 3 .boolean 2 41 (98 + 9 * k) ad E [.ref (ad 49), .int q, .int v] (fun r E' => ((r = 1 ∧ wiK ic md q.toInt v.toInt) ∨ (r = 0 ∧ ¬ wiK ic md q.toInt v.toInt)) ∧ E = E') := by
  refine CtI.of (by decide) (Nat.le_of_ble_eq_true rfl) (fun X A C => ?_)
  refine v_sub (lv' := [(0, .ref (ad 49)), (1, .int q), (2, .int v)]) [0, 1, 2] rfl ?_
  obtain ⟨⟨i49, h49⟩, hC, ⟨iz, fz, h6, hzk, h7, hfz⟩, hZY, hk5⟩ := id hK
  obtain ⟨ms, ld, ys, hC1, hC2, hC3, hC4, hC5, hP, hF⟩ := id hC
  have hcy := cal_y hP
  refine v_iload_n C 1 dX2_isWithin_0 rfl rfl ?_
  have q1v : Int32.toInt q = q.toInt := (rfl : Int32.toInt q = _)
  rcases (show q.toInt = 0 ∨ q.toInt = 1 ∨ q.toInt = 2 ∨ (q.toInt < 0 ∨ 2 < q.toInt) by omega) with q1 | q1 | q1 | q1
  · refine v_tableIn (off := 27) C 28 dX2_isWithin_1 (by omega) (by omega) (by rw [q1v, q1]; rfl) (by decide) ?_
    refine v_iload_n C 2 dX2_isWithin_28 rfl rfl ?_
    refine v_cSNp C dX2_isWithin_29 (List.mem_of_getElem? (i := 5) rfl) mX8_isMoment (c_isMoment l G _ ad _ v) ⟨by decide, by decide⟩ rfl (Nat.le_of_ble_eq_true rfl) ⟨Nat.zero_le _, Nat.zero_le _⟩ (fun r2 hp3 => ?_)
    rcases hp3 with ⟨rfl, hp3⟩ | ⟨rfl, hp3⟩
    · exact v_ret C dX2_isWithin_32 rfl rfl ⟨Or.inl ⟨rfl, by unfold wiK; omega⟩, rfl⟩
    · exact v_ret C dX2_isWithin_32 rfl rfl ⟨Or.inr ⟨rfl, by unfold wiK; omega⟩, rfl⟩
  · refine v_tableIn (off := 32) C 33 dX2_isWithin_1 (by omega) (by omega) (by rw [q1v, q1]; rfl) (by decide) ?_
    refine v_aload_n C 0 dX2_isWithin_33 rfl rfl ?_
    refine v_getr C 49 dX2_isWithin_34 fX2_15 (by omega) h49 rfl rfl ?_
    refine v_iload_n C 2 dX2_isWithin_37 rfl rfl ?_
    refine v_cVp C dX2_isWithin_38 lX2_80 mX0_hasWall 1 (by omega) hC1 (by decide) rfl (c_hasWall l G _ ad _ (by omega) hC1 hC2 hC3 hC4 hC5 hP hF v) ⟨by decide, by decide⟩ rfl (Nat.le_of_ble_eq_true rfl) ⟨Nat.zero_le _, Nat.zero_le _⟩ (fun r4 hp5 => ?_)
    rcases hp5 with ⟨rfl, hp5⟩ | ⟨rfl, hp5⟩
    · exact v_ret C dX2_isWithin_41 rfl rfl ⟨Or.inl ⟨rfl, by unfold wiK; omega⟩, rfl⟩
    · exact v_ret C dX2_isWithin_41 rfl rfl ⟨Or.inr ⟨rfl, by unfold wiK; omega⟩, rfl⟩
  · refine v_tableIn (off := 41) C 42 dX2_isWithin_1 (by omega) (by omega) (by rw [q1v, q1]; rfl) (by decide) ?_
    refine v_aload_n C 0 dX2_isWithin_42 rfl rfl ?_
    refine v_getr C 49 dX2_isWithin_43 fX2_15 (by omega) h49 rfl rfl ?_
    refine v_iload_n C 2 dX2_isWithin_46 rfl rfl ?_
    refine v_cVp C dX2_isWithin_47 lX2_83 mX0_has 1 (by omega) hC1 (by decide) rfl (c_has l G _ ad _ (by omega) hC1 hC2 hC3 hC4 hC5 hP hF v) ⟨by decide, by decide⟩ rfl (Nat.le_of_ble_eq_true rfl) ⟨Nat.zero_le _, Nat.zero_le _⟩ (fun r6 hp7 => ?_)
    rcases hp7 with ⟨rfl, hp7⟩ | ⟨rfl, hp7⟩
    · exact v_ret C dX2_isWithin_50 rfl rfl ⟨Or.inl ⟨rfl, by unfold wiK; omega⟩, rfl⟩
    · exact v_ret C dX2_isWithin_50 rfl rfl ⟨Or.inr ⟨rfl, by unfold wiK; omega⟩, rfl⟩
  · refine v_tableOut C 51 dX2_isWithin_1 (by omega) (by decide) ?_
    refine v_iload_n C 2 dX2_isWithin_51 rfl rfl ?_
    refine v_ldc C dX2_isWithin_52 kX2_86 ?_
    refine b_icmp_lt C 67 dX2_isWithin_54 (by decide) (rfl : Int32.toInt v = _) (show ((-99999999) : Int32).toInt = (-99999999) by decide) (fun c8 => ?_) (fun c8 => ?_)
    · refine v_iconst (v := 0) C dX2_isWithin_67 (by decide) ?_
      exact v_ret C dX2_isWithin_68 rfl rfl ⟨Or.inr ⟨rfl, by unfold wiK; omega⟩, rfl⟩
    · refine v_iload_n C 2 dX2_isWithin_57 rfl rfl ?_
      refine v_ldc C dX2_isWithin_58 kX2_87 ?_
      refine b_icmp_gt C 67 dX2_isWithin_60 (by decide) (rfl : Int32.toInt v = _) (show (99999999 : Int32).toInt = 99999999 by decide) (fun c9 => ?_) (fun c9 => ?_)
      · refine v_iconst (v := 0) C dX2_isWithin_67 (by decide) ?_
        exact v_ret C dX2_isWithin_68 rfl rfl ⟨Or.inr ⟨rfl, by unfold wiK; omega⟩, rfl⟩
      · refine v_iconst (v := 1) C dX2_isWithin_63 (by decide) ?_
        refine v_goto C 68 dX2_isWithin_64 (by decide) ?_
        exact v_ret C dX2_isWithin_68 rfl rfl ⟨Or.inl ⟨rfl, by unfold wiK; omega⟩, rfl⟩

set_option maxRecDepth 20000 in
theorem g_joined (l : Launch) (G : Gl) (n : Nat) (ad : Nat → Nat) (E : Nat → va_E) {k : Nat} {ic md : Nat → Int32} {TT : Nat → TST} (hK : KSt G ad k ic md TT E) (b : Nat) (hb : b + 6 ≤ 98) {ip po px py tp : Nat → Int32} (hEb : E b = ob 5 (rP ad b) ip) (hb1 : E (b + 1) = aI G 10 po) (hb2 : E (b + 2) = aI G 10 px) (hb3 : E (b + 3) = aI G 10 py) (hb4 : E (b + 4) = aI G 10 tp) {i1 : Nat} (hi1 : i1 < 10) (i : Int32) (u : Int32) (t : Int32) (hii : i.toInt = (i1 : Int)) (hi0 : 0 < i1) (hu : -99999999 ≤ u.toInt ∧ u.toInt ≤ 99999999) (ht : -99999999 ≤ t.toInt ∧ t.toInt ≤ 99999999) (hd : ¬ (po i1).toInt = 9 → (tp (i1 - 1)).toInt = 2 → (0 ≤ u.toInt ∧ u.toInt ≤ 48100) ∧ 0 ≤ t.toInt ∧ t.toInt ≤ 48100) : CtI l G yX2_joined cX2_joined 6 .int 0 0 (98 + 9 * k) ad E [.ref (ad 49), .ref (ad b), .int i, .int u, .int t] (fun r E' => (r.toInt = jnV (po i1).toInt (tp (i1 - 1)).toInt u.toInt t.toInt) ∧ E = E') := by
  refine CtI.of (by decide) (Nat.le_of_ble_eq_true rfl) (fun X A C => ?_)
  refine v_sub (lv' := [(0, .ref (ad 49)), (1, .ref (ad b)), (2, .int i), (3, .int u), (4, .int t)]) [0, 1, 2, 3, 4] rfl ?_
  obtain ⟨⟨i49, h49⟩, hC, ⟨iz, fz, h6, hzk, h7, hfz⟩, hZY, hk5⟩ := id hK
  obtain ⟨ms, ld, ys, hC1, hC2, hC3, hC4, hC5, hP, hF⟩ := id hC
  have hcy := cal_y hP
  refine v_aload_n C 1 dX2_joined_0 rfl rfl ?_
  refine v_getr C b dX2_joined_1 fX2_29 (by omega) hEb rfl rfl ?_
  refine v_iload_n C 2 dX2_joined_4 rfl rfl ?_
  refine v_ald (v := po i1) C (b + 1) dX2_joined_5 (by omega) hb1 (ti_in hii (by omega) (by omega)) (by rw [ti_cl hii, show Int.toNat (i1 : Int) = i1 by omega]) ?_
  refine v_bipush (v := 9) C dX2_joined_6 (by decide) ?_
  refine b_icmp_ne C 16 dX2_joined_8 (by decide) (rfl : Int32.toInt (po i1) = _) (show (9 : Int32).toInt = 9 by decide) (fun c1 => ?_) (fun c1 => ?_)
  · refine v_iload_n C 2 dX2_joined_16 rfl rfl ?_
    refine b_if_le C 36 dX2_joined_17 (by decide) hii (fun c2 => by exfalso; omega) (fun c2 => ?_)
    refine v_aload_n C 1 dX2_joined_20 rfl rfl ?_
    refine v_getr C b dX2_joined_21 fX2_41 (by omega) hEb rfl rfl ?_
    refine v_iload_n C 2 dX2_joined_24 rfl rfl ?_
    refine v_iconst (v := 1) C dX2_joined_25 (by decide) ?_
    refine v_isub C dX2_joined_26 ?_
    refine v_top (fun x3 ex3 => ?_)
    have hx3 : x3.toInt = ((i1 : Int) - 1) := by rw [ex3]; exact ti_sub hii (show (1 : Int32).toInt = 1 by decide) (by omega) (by omega)
    refine v_ald (v := tp (i1 - 1)) C (b + 4) dX2_joined_27 (by omega) hb4 (ti_in hx3 (by omega) (by omega)) (by rw [ti_cl hx3, show Int.toNat ((i1 : Int) - 1) = i1 - 1 by omega]) ?_
    refine v_iconst (v := 2) C dX2_joined_28 (by decide) ?_
    refine b_icmp_ne C 36 dX2_joined_29 (by decide) (rfl : Int32.toInt (tp (i1 - 1)) = _) (show (2 : Int32).toInt = 2 by decide) (fun c4 => ?_) (fun c4 => ?_)
    · refine v_iconst (v := 0) C dX2_joined_36 (by decide) ?_
      refine v_istore (lv' := [(0, .ref (ad 49)), (1, .ref (ad b)), (2, .int i), (3, .int u), (4, .int t), (5, .int 0)]) C [1, 2, 3, 4, 5, 0] dX2_joined_37 (by decide) rfl ?_
      refine v_iload C 5 dX2_joined_39 rfl ?_
      refine b_if_eq C 55 dX2_joined_41 (by decide) (show (0 : Int32).toInt = 0 by decide) (fun c5 => ?_) (fun c5 => absurd c5 (by decide))
      refine v_iload C 4 dX2_joined_55 rfl ?_
      refine v_iload_n C 3 dX2_joined_57 rfl rfl ?_
      refine v_isub C dX2_joined_58 ?_
      refine v_top (fun x6 ex6 => ?_)
      have hx6 : x6.toInt = (t.toInt - u.toInt) := by rw [ex6]; exact ti_sub (rfl : Int32.toInt t = _) (rfl : Int32.toInt u = _) (by omega) (by omega)
      exact v_ret C dX2_joined_59 rfl rfl ⟨(by unfold jnV; (repeat first | rw [if_pos (by omega)] | rw [if_neg (by omega)]); exact hx6), rfl⟩
    · refine v_iconst (v := 1) C dX2_joined_32 (by decide) ?_
      refine v_goto C 37 dX2_joined_33 (by decide) ?_
      refine v_istore (lv' := [(0, .ref (ad 49)), (1, .ref (ad b)), (2, .int i), (3, .int u), (4, .int t), (5, .int 1)]) C [1, 2, 3, 4, 5, 0] dX2_joined_37 (by decide) rfl ?_
      refine v_iload C 5 dX2_joined_39 rfl ?_
      refine b_if_eq C 55 dX2_joined_41 (by decide) (show (1 : Int32).toInt = 1 by decide) (fun c7 => absurd c7 (by decide)) (fun c7 => ?_)
      refine v_iload C 4 dX2_joined_44 rfl ?_
      refine v_iload_n C 3 dX2_joined_46 rfl rfl ?_
      refine v_isub C dX2_joined_47 ?_
      refine v_top (fun x8 ex8 => ?_)
      have hx8 : x8.toInt = (t.toInt - u.toInt) := by rw [ex8]; exact ti_sub (rfl : Int32.toInt t = _) (rfl : Int32.toInt u = _) (by omega) (by omega)
      refine v_sipush (v := 1440) C dX2_joined_48 (by decide) ?_
      refine v_imul C dX2_joined_51 ?_
      refine v_top (fun x9 ex9 => ?_)
      have hx9 : x9.toInt = ((t.toInt - u.toInt) * 1440) := by rw [ex9]; exact ti_mul hx8 (show (1440 : Int32).toInt = 1440 by decide) (by omega) (by omega)
      refine v_goto C 59 dX2_joined_52 (by decide) ?_
      exact v_ret C dX2_joined_59 rfl rfl ⟨(by unfold jnV; (repeat first | rw [if_pos (by omega)] | rw [if_neg (by omega)]); exact hx9), rfl⟩
  · refine v_iload_n C 3 dX2_joined_11 rfl rfl ?_
    refine v_iload C 4 dX2_joined_12 rfl ?_
    refine v_iadd C dX2_joined_14 ?_
    refine v_top (fun x10 ex10 => ?_)
    have hx10 : x10.toInt = (u.toInt + t.toInt) := by rw [ex10]; exact ti_add (rfl : Int32.toInt u = _) (rfl : Int32.toInt t = _) (by omega) (by omega)
    exact v_ret C dX2_joined_15 rfl rfl ⟨(by unfold jnV; (repeat first | rw [if_pos (by omega)] | rw [if_neg (by omega)]); exact hx10), rfl⟩

set_option maxRecDepth 20000 in
theorem g_changed (l : Launch) (G : Gl) (n : Nat) (ad : Nat → Nat) (E : Nat → va_E) {k : Nat} {ic md : Nat → Int32} {TT : Nat → TST} (hK : KSt G ad k ic md TT E) (b : Nat) (hb : b + 6 ≤ 98) {ip po px py tp : Nat → Int32} (hEb : E b = ob 5 (rP ad b) ip) (hb1 : E (b + 1) = aI G 10 po) (hb2 : E (b + 2) = aI G 10 px) (hb3 : E (b + 3) = aI G 10 py) (hb4 : E (b + 4) = aI G 10 tp) {i1 : Nat} (hi1 : i1 < 10) (q : Int32) (v : Int32) (hii : q.toInt = (i1 : Int)) (hln : okLn (k : Int) (po i1).toInt (px i1).toInt (py i1).toInt) (hop : 1 ≤ (po i1).toInt ∧ (po i1).toInt ≤ 7) {kd : Int} (hwv : wiK ic md kd v.toInt) (hkd : ((po i1).toInt = 1 → kd = 0) ∧ ((po i1).toInt = 2 → kd = 1) ∧ ((po i1).toInt = 3 → kd = 2) ∧ ((po i1).toInt = 4 → kd = 1) ∧ ((po i1).toInt = 5 → kd = 0 ∨ kd = 1) ∧ ((po i1).toInt = 6 → (kd = 1 ∨ kd = 2) ∧ (tp i1).toInt = kd) ∧ ((po i1).toInt = 7 → kd = 2)) : CtI l G yX2_changed cX2_changed 7 .int 3 71 (98 + 9 * k) ad E [.ref (ad 49), .ref (ad b), .int q, .int v] (fun r E' => (r.toInt = chV ic md TT (po i1).toInt (px i1).toInt (py i1).toInt kd v.toInt) ∧ E = E') := by
  refine CtI.of (by decide) (Nat.le_of_ble_eq_true rfl) (fun X A C => ?_)
  refine v_sub (lv' := [(0, .ref (ad 49)), (1, .ref (ad b)), (2, .int q), (3, .int v)]) [0, 1, 2, 3] rfl ?_
  obtain ⟨⟨i49, h49⟩, hC, ⟨iz, fz, h6, hzk, h7, hfz⟩, hZY, hk5⟩ := id hK
  obtain ⟨ms, ld, ys, hC1, hC2, hC3, hC4, hC5, hP, hF⟩ := id hC
  have hcy := cal_y hP
  unfold wiK at hwv
  unfold okLn at hln
  refine v_aload_n C 1 dX2_changed_0 rfl rfl ?_
  refine v_getr C b dX2_changed_1 fX2_48 (by omega) hEb rfl rfl ?_
  refine v_iload_n C 2 dX2_changed_4 rfl rfl ?_
  refine v_ald (v := px i1) C (b + 2) dX2_changed_5 (by omega) hb2 (ti_in hii (by omega) (by omega)) (by rw [ti_cl hii, show Int.toNat (i1 : Int) = i1 by omega]) ?_
  refine v_istore (lv' := [(0, .ref (ad 49)), (1, .ref (ad b)), (2, .int q), (3, .int v), (4, .int (px i1))]) C [1, 2, 3, 4, 0] dX2_changed_6 (by decide) rfl ?_
  refine v_aload_n C 1 dX2_changed_8 rfl rfl ?_
  refine v_getr C b dX2_changed_9 fX2_51 (by omega) hEb rfl rfl ?_
  refine v_iload_n C 2 dX2_changed_12 rfl rfl ?_
  refine v_ald (v := py i1) C (b + 3) dX2_changed_13 (by omega) hb3 (ti_in hii (by omega) (by omega)) (by rw [ti_cl hii, show Int.toNat (i1 : Int) = i1 by omega]) ?_
  refine v_istore (lv' := [(0, .ref (ad 49)), (1, .ref (ad b)), (2, .int q), (3, .int v), (4, .int (px i1)), (5, .int (py i1))]) C [1, 2, 3, 4, 5, 0] dX2_changed_14 (by decide) rfl ?_
  refine v_aload_n C 0 dX2_changed_16 rfl rfl ?_
  refine v_getr C 49 dX2_changed_17 fX2_19 (by omega) h49 rfl rfl ?_
  refine v_iload C 4 dX2_changed_20 rfl ?_
  refine v_cVr C dX2_changed_22 lX2_54 mX7_at 6 (by omega) h6 (by decide) rfl (g_zoneAt l G _ ad _ (by omega) h6 hzk h7 hfz hk5 (px i1)) ⟨by decide, by decide⟩ rfl (Nat.le_of_ble_eq_true rfl) ⟨Nat.zero_le _, Nat.zero_le _⟩ (fun r1 hp2 => ?_)
  rcases hp2 with ⟨hno, rfl⟩ | ⟨i, hi, hk, rfl⟩
  · refine v_astoreN (lv' := [(0, .ref (ad 49)), (1, .ref (ad b)), (2, .int q), (3, .int v), (4, .int (px i1)), (5, .int (py i1)), (6, .null)]) C [1, 2, 3, 4, 5, 6, 0] dX2_changed_25 (by decide) rfl ?_
    refine v_aload_n C 1 dX2_changed_27 rfl rfl ?_
    refine v_getr C b dX2_changed_28 fX2_29 (by omega) hEb rfl rfl ?_
    refine v_iload_n C 2 dX2_changed_31 rfl rfl ?_
    refine v_ald (v := po i1) C (b + 1) dX2_changed_32 (by omega) hb1 (ti_in hii (by omega) (by omega)) (by rw [ti_cl hii, show Int.toNat (i1 : Int) = i1 by omega]) ?_
    have q3v : Int32.toInt (po i1) = (po i1).toInt := (rfl : Int32.toInt (po i1) = _)
    rcases (show (po i1).toInt = 1 ∨ (po i1).toInt = 2 ∨ (po i1).toInt = 3 ∨ (po i1).toInt = 4 ∨ (po i1).toInt = 5 ∨ (po i1).toInt = 6 ∨ (po i1).toInt = 7 ∨ ((po i1).toInt < 1 ∨ 7 < (po i1).toInt) by omega) with q3 | q3 | q3 | q3 | q3 | q3 | q3 | q3
    · refine v_tableIn (off := 43) C 76 dX2_changed_33 (by omega) (by omega) (by rw [q3v, q3]; rfl) (by decide) ?_
      refine v_aloadN C 6 dX2_changed_76 rfl ?_
      refine v_ifnonnullN C dX2_changed_78 ?_
      refine v_ldc C dX2_changed_81 kX2_32 ?_
      refine v_goto C 94 dX2_changed_83 (by decide) ?_
      exact v_ret C dX2_changed_94 rfl rfl (by exfalso; omega)
    · refine v_tableIn (off := 62) C 95 dX2_changed_33 (by omega) (by omega) (by rw [q3v, q3]; rfl) (by decide) ?_
      refine v_iload_n C 3 dX2_changed_95 rfl rfl ?_
      refine v_sipush (v := 1440) C dX2_changed_96 (by decide) ?_
      refine v_idiv C dX2_changed_99 (by decide) ?_
      refine v_top (fun x4 ex4 => ?_)
      have hx4 : x4.toInt = (v.toInt / 1440) := by rw [ex4]; exact ti_div (rfl : Int32.toInt v = _) (show (1440 : Int32).toInt = 1440 by decide) (by omega) (by omega)
      exact v_ret C dX2_changed_100 rfl rfl ⟨(by unfold chV; (repeat first | rw [if_pos (by omega)] | rw [if_neg (by omega)]); exact hx4), rfl⟩
    · refine v_tableIn (off := 68) C 101 dX2_changed_33 (by omega) (by omega) (by rw [q3v, q3]; rfl) (by decide) ?_
      refine v_iload_n C 3 dX2_changed_101 rfl rfl ?_
      refine v_sipush (v := 1440) C dX2_changed_102 (by decide) ?_
      refine v_imul C dX2_changed_105 ?_
      refine v_top (fun x5 ex5 => ?_)
      have hx5 : x5.toInt = (v.toInt * 1440) := by rw [ex5]; exact ti_mul (rfl : Int32.toInt v = _) (show (1440 : Int32).toInt = 1440 by decide) (by omega) (by omega)
      refine v_iload C 4 dX2_changed_106 rfl ?_
      refine v_iadd C dX2_changed_108 ?_
      refine v_top (fun x6 ex6 => ?_)
      have hx6 : x6.toInt = ((v.toInt * 1440) + (px i1).toInt) := by rw [ex6]; exact ti_add hx5 (rfl : Int32.toInt (px i1) = _) (by omega) (by omega)
      exact v_ret C dX2_changed_109 rfl rfl ⟨(by unfold chV; (repeat first | rw [if_pos (by omega)] | rw [if_neg (by omega)]); exact hx6), rfl⟩
    · refine v_tableIn (off := 77) C 110 dX2_changed_33 (by omega) (by omega) (by rw [q3v, q3]; rfl) (by decide) ?_
      refine v_aloadN C 6 dX2_changed_110 rfl ?_
      refine v_ifnonnullN C dX2_changed_112 ?_
      refine v_ldc C dX2_changed_115 kX2_32 ?_
      refine v_goto C 137 dX2_changed_117 (by decide) ?_
      exact v_ret C dX2_changed_137 rfl rfl (by exfalso; omega)
    · refine v_tableIn (off := 105) C 138 dX2_changed_33 (by omega) (by omega) (by rw [q3v, q3]; rfl) (by decide) ?_
      refine v_iload_n C 3 dX2_changed_138 rfl rfl ?_
      refine v_iload C 4 dX2_changed_139 rfl ?_
      refine v_iadd C dX2_changed_141 ?_
      refine v_top (fun x7 ex7 => ?_)
      have hx7 : x7.toInt = (v.toInt + (px i1).toInt) := by rw [ex7]; exact ti_add (rfl : Int32.toInt v = _) (rfl : Int32.toInt (px i1) = _) (by omega) (by omega)
      exact v_ret C dX2_changed_142 rfl rfl ⟨(by unfold chV; (repeat first | rw [if_pos (by omega)] | rw [if_neg (by omega)]); exact hx7), rfl⟩
    · refine v_tableIn (off := 110) C 143 dX2_changed_33 (by omega) (by omega) (by rw [q3v, q3]; rfl) (by decide) ?_
      refine v_aload_n C 1 dX2_changed_143 rfl rfl ?_
      refine v_getr C b dX2_changed_144 fX2_41 (by omega) hEb rfl rfl ?_
      refine v_iload_n C 2 dX2_changed_147 rfl rfl ?_
      refine v_ald (v := tp i1) C (b + 4) dX2_changed_148 (by omega) hb4 (ti_in hii (by omega) (by omega)) (by rw [ti_cl hii, show Int.toNat (i1 : Int) = i1 by omega]) ?_
      refine v_iconst (v := 2) C dX2_changed_149 (by decide) ?_
      refine b_icmp_ne C 160 dX2_changed_150 (by decide) (rfl : Int32.toInt (tp i1) = _) (show (2 : Int32).toInt = 2 by decide) (fun c8 => ?_) (fun c8 => ?_)
      · refine v_iload_n C 3 dX2_changed_160 rfl rfl ?_
        refine v_iload C 4 dX2_changed_161 rfl ?_
        refine v_sipush (v := 1440) C dX2_changed_163 (by decide) ?_
        refine v_imul C dX2_changed_166 ?_
        refine v_top (fun x9 ex9 => ?_)
        have hx9 : x9.toInt = ((px i1).toInt * 1440) := by rw [ex9]; exact ti_mul (rfl : Int32.toInt (px i1) = _) (show (1440 : Int32).toInt = 1440 by decide) (by omega) (by omega)
        refine v_iadd C dX2_changed_167 ?_
        refine v_top (fun x10 ex10 => ?_)
        have hx10 : x10.toInt = (v.toInt + ((px i1).toInt * 1440)) := by rw [ex10]; exact ti_add (rfl : Int32.toInt v = _) hx9 (by omega) (by omega)
        exact v_ret C dX2_changed_168 rfl rfl ⟨(by unfold chV; (repeat first | rw [if_pos (by omega)] | rw [if_neg (by omega)]); exact hx10), rfl⟩
      · refine v_iload_n C 3 dX2_changed_153 rfl rfl ?_
        refine v_iload C 4 dX2_changed_154 rfl ?_
        refine v_iadd C dX2_changed_156 ?_
        refine v_top (fun x11 ex11 => ?_)
        have hx11 : x11.toInt = (v.toInt + (px i1).toInt) := by rw [ex11]; exact ti_add (rfl : Int32.toInt v = _) (rfl : Int32.toInt (px i1) = _) (by omega) (by omega)
        refine v_goto C 168 dX2_changed_157 (by decide) ?_
        exact v_ret C dX2_changed_168 rfl rfl ⟨(by unfold chV; (repeat first | rw [if_pos (by omega)] | rw [if_neg (by omega)]); exact hx11), rfl⟩
    · refine v_tableIn (off := 136) C 169 dX2_changed_33 (by omega) (by omega) (by rw [q3v, q3]; rfl) (by decide) ?_
      refine v_aload_n C 0 dX2_changed_169 rfl rfl ?_
      refine v_getr C 49 dX2_changed_170 fX2_15 (by omega) h49 rfl rfl ?_
      refine v_iload_n C 3 dX2_changed_173 rfl rfl ?_
      refine v_iload C 4 dX2_changed_174 rfl ?_
      refine v_iload C 5 dX2_changed_176 rfl ?_
      refine v_cVp C dX2_changed_178 lX2_70 mX0_monthsOn 1 (by omega) hC1 (by decide) rfl (c_monthsOn l G _ ad _ (by omega) hC1 hC2 hC3 hC4 hC5 hP hF v (px i1) (py i1) (by omega) (by omega) (by omega) (by omega) (by omega) (by omega)) ⟨by decide, by decide⟩ rfl (Nat.le_of_ble_eq_true rfl) ⟨Nat.zero_le _, Nat.zero_le _⟩ (fun r12 hp13 => ?_)
      obtain ⟨yy, mm, q1, q2, q3, q4, hp13⟩ := hp13
      rw [mnF_fd hP q1 q2 q3 q4] at hp13
      exact v_ret C dX2_changed_181 rfl rfl ⟨(by unfold chV; (repeat first | rw [if_pos (by omega)] | rw [if_neg (by omega)]); exact hp13), rfl⟩
    · refine v_tableOut C 182 dX2_changed_33 (by omega) (by decide) ?_
      refine v_ldc C dX2_changed_182 kX2_32 ?_
      exact v_ret C dX2_changed_184 rfl rfl (by exfalso; omega)
  · obtain ⟨zb, ezb⟩ : ∃ q : Nat, q = 98 + 9 * i := ⟨_, rfl⟩
    have hZi := hZY i hk
    rw [← ezb] at hZi ⊢
    obtain ⟨⟨ib, ss, se, os, c, hB, hz6, hz7, hz8, hc, hcT, hZ, hS⟩, hokT⟩ := hZi
    refine v_astore (lv' := [(0, .ref (ad 49)), (1, .ref (ad b)), (2, .int q), (3, .int v), (4, .int (px i1)), (5, .int (py i1)), (6, .ref (ad zb))]) C [1, 2, 3, 4, 5, 6, 0] dX2_changed_25 (by decide) rfl ?_
    refine v_aload_n C 1 dX2_changed_27 rfl rfl ?_
    refine v_getr C b dX2_changed_28 fX2_29 (by omega) hEb rfl rfl ?_
    refine v_iload_n C 2 dX2_changed_31 rfl rfl ?_
    refine v_ald (v := po i1) C (b + 1) dX2_changed_32 (by omega) hb1 (ti_in hii (by omega) (by omega)) (by rw [ti_cl hii, show Int.toNat (i1 : Int) = i1 by omega]) ?_
    have q14v : Int32.toInt (po i1) = (po i1).toInt := (rfl : Int32.toInt (po i1) = _)
    rcases (show (po i1).toInt = 1 ∨ (po i1).toInt = 2 ∨ (po i1).toInt = 3 ∨ (po i1).toInt = 4 ∨ (po i1).toInt = 5 ∨ (po i1).toInt = 6 ∨ (po i1).toInt = 7 ∨ ((po i1).toInt < 1 ∨ 7 < (po i1).toInt) by omega) with q14 | q14 | q14 | q14 | q14 | q14 | q14 | q14
    · refine v_tableIn (off := 43) C 76 dX2_changed_33 (by omega) (by omega) (by rw [q14v, q14]; rfl) (by decide) ?_
      refine v_aload C 6 dX2_changed_76 rfl ?_
      refine v_ifnonnull C 86 dX2_changed_78 (by decide) ?_
      refine v_iload_n C 3 dX2_changed_86 rfl rfl ?_
      refine v_aload C 6 dX2_changed_87 rfl ?_
      refine v_iload_n C 3 dX2_changed_89 rfl rfl ?_
      refine v_cVp C dX2_changed_90 lX2_60 mX6_offsetAt zb (by omega) hB (by decide) rfl (z_offset l G (98 + 9 * k) ad _ zb (by omega) hB hz6 hz7 hz8 hc hS v) ⟨by decide, by decide⟩ rfl (Nat.le_of_ble_eq_true rfl) ⟨Nat.zero_le _, Nat.zero_le _⟩ (fun r15 hp16 => ?_)
      obtain ⟨j, hST, hrj⟩ := hp16
      have hTTj := isST_T hcT hZ hST
      have hrv : r15.toInt = ofT (TT i) (Int32.toInt v) := by rw [hrj, (hZ.2 j hTTj.1).2]; exact ofT_tt hTTj
      have hrb := ofT_bd (m := Int32.toInt v) hokT
      refine v_iadd C dX2_changed_93 ?_
      refine v_top (fun x17 ex17 => ?_)
      have hx17 : x17.toInt = (v.toInt + (ofT (TT i) v.toInt)) := by rw [ex17]; exact ti_add (rfl : Int32.toInt v = _) hrv (by omega) (by omega)
      exact v_ret C dX2_changed_94 rfl rfl ⟨(by unfold chV; (repeat first | rw [if_pos (by omega)] | rw [if_neg (by omega)]); rw [show (px i1).toInt.toNat = i by omega]; exact hx17), rfl⟩
    · refine v_tableIn (off := 62) C 95 dX2_changed_33 (by omega) (by omega) (by rw [q14v, q14]; rfl) (by decide) ?_
      refine v_iload_n C 3 dX2_changed_95 rfl rfl ?_
      refine v_sipush (v := 1440) C dX2_changed_96 (by decide) ?_
      refine v_idiv C dX2_changed_99 (by decide) ?_
      refine v_top (fun x18 ex18 => ?_)
      have hx18 : x18.toInt = (v.toInt / 1440) := by rw [ex18]; exact ti_div (rfl : Int32.toInt v = _) (show (1440 : Int32).toInt = 1440 by decide) (by omega) (by omega)
      exact v_ret C dX2_changed_100 rfl rfl ⟨(by unfold chV; (repeat first | rw [if_pos (by omega)] | rw [if_neg (by omega)]); exact hx18), rfl⟩
    · refine v_tableIn (off := 68) C 101 dX2_changed_33 (by omega) (by omega) (by rw [q14v, q14]; rfl) (by decide) ?_
      refine v_iload_n C 3 dX2_changed_101 rfl rfl ?_
      refine v_sipush (v := 1440) C dX2_changed_102 (by decide) ?_
      refine v_imul C dX2_changed_105 ?_
      refine v_top (fun x19 ex19 => ?_)
      have hx19 : x19.toInt = (v.toInt * 1440) := by rw [ex19]; exact ti_mul (rfl : Int32.toInt v = _) (show (1440 : Int32).toInt = 1440 by decide) (by omega) (by omega)
      refine v_iload C 4 dX2_changed_106 rfl ?_
      refine v_iadd C dX2_changed_108 ?_
      refine v_top (fun x20 ex20 => ?_)
      have hx20 : x20.toInt = ((v.toInt * 1440) + (px i1).toInt) := by rw [ex20]; exact ti_add hx19 (rfl : Int32.toInt (px i1) = _) (by omega) (by omega)
      exact v_ret C dX2_changed_109 rfl rfl ⟨(by unfold chV; (repeat first | rw [if_pos (by omega)] | rw [if_neg (by omega)]); exact hx20), rfl⟩
    · refine v_tableIn (off := 77) C 110 dX2_changed_33 (by omega) (by omega) (by rw [q14v, q14]; rfl) (by decide) ?_
      refine v_aload C 6 dX2_changed_110 rfl ?_
      refine v_ifnonnull C 120 dX2_changed_112 (by decide) ?_
      refine v_aload C 6 dX2_changed_120 rfl ?_
      refine v_iload_n C 3 dX2_changed_122 rfl rfl ?_
      refine v_iload C 5 dX2_changed_123 rfl ?_
      refine v_iconst (v := 1) C dX2_changed_125 (by decide) ?_
      refine b_icmp_ne C 133 dX2_changed_126 (by decide) (rfl : Int32.toInt (py i1) = _) (show (1 : Int32).toInt = 1 by decide) (fun c21 => ?_) (fun c21 => ?_)
      · refine v_iconst (v := 0) C dX2_changed_133 (by decide) ?_
        refine v_cVp C dX2_changed_134 lX2_66 mX6_turned zb (by omega) hB (by decide) rfl (z_turned l G (98 + 9 * k) ad _ zb (by omega) hB hz6 hz7 hz8 hc hS hcT hZ hokT v 0 (by omega) (by decide)) ⟨by decide, by decide⟩ rfl (Nat.le_of_ble_eq_true rfl) ⟨Nat.zero_le _, Nat.zero_le _⟩ (fun r22 hp23 => ?_)
        rw [show (0 : Int32).toInt = (py i1).toInt by rw [show (0 : Int32).toInt = 0 by decide]; omega] at hp23
        exact v_ret C dX2_changed_137 rfl rfl ⟨(by unfold chV; (repeat first | rw [if_pos (by omega)] | rw [if_neg (by omega)]); rw [show (px i1).toInt.toNat = i by omega]; exact hp23), rfl⟩
      · refine v_iconst (v := 1) C dX2_changed_129 (by decide) ?_
        refine v_goto C 134 dX2_changed_130 (by decide) ?_
        refine v_cVp C dX2_changed_134 lX2_66 mX6_turned zb (by omega) hB (by decide) rfl (z_turned l G (98 + 9 * k) ad _ zb (by omega) hB hz6 hz7 hz8 hc hS hcT hZ hokT v 1 (by omega) (by decide)) ⟨by decide, by decide⟩ rfl (Nat.le_of_ble_eq_true rfl) ⟨Nat.zero_le _, Nat.zero_le _⟩ (fun r24 hp25 => ?_)
        rw [show (1 : Int32).toInt = (py i1).toInt by rw [show (1 : Int32).toInt = 1 by decide]; omega] at hp25
        exact v_ret C dX2_changed_137 rfl rfl ⟨(by unfold chV; (repeat first | rw [if_pos (by omega)] | rw [if_neg (by omega)]); rw [show (px i1).toInt.toNat = i by omega]; exact hp25), rfl⟩
    · refine v_tableIn (off := 105) C 138 dX2_changed_33 (by omega) (by omega) (by rw [q14v, q14]; rfl) (by decide) ?_
      refine v_iload_n C 3 dX2_changed_138 rfl rfl ?_
      refine v_iload C 4 dX2_changed_139 rfl ?_
      refine v_iadd C dX2_changed_141 ?_
      refine v_top (fun x26 ex26 => ?_)
      have hx26 : x26.toInt = (v.toInt + (px i1).toInt) := by rw [ex26]; exact ti_add (rfl : Int32.toInt v = _) (rfl : Int32.toInt (px i1) = _) (by omega) (by omega)
      exact v_ret C dX2_changed_142 rfl rfl ⟨(by unfold chV; (repeat first | rw [if_pos (by omega)] | rw [if_neg (by omega)]); exact hx26), rfl⟩
    · refine v_tableIn (off := 110) C 143 dX2_changed_33 (by omega) (by omega) (by rw [q14v, q14]; rfl) (by decide) ?_
      refine v_aload_n C 1 dX2_changed_143 rfl rfl ?_
      refine v_getr C b dX2_changed_144 fX2_41 (by omega) hEb rfl rfl ?_
      refine v_iload_n C 2 dX2_changed_147 rfl rfl ?_
      refine v_ald (v := tp i1) C (b + 4) dX2_changed_148 (by omega) hb4 (ti_in hii (by omega) (by omega)) (by rw [ti_cl hii, show Int.toNat (i1 : Int) = i1 by omega]) ?_
      refine v_iconst (v := 2) C dX2_changed_149 (by decide) ?_
      refine b_icmp_ne C 160 dX2_changed_150 (by decide) (rfl : Int32.toInt (tp i1) = _) (show (2 : Int32).toInt = 2 by decide) (fun c27 => ?_) (fun c27 => ?_)
      · refine v_iload_n C 3 dX2_changed_160 rfl rfl ?_
        refine v_iload C 4 dX2_changed_161 rfl ?_
        refine v_sipush (v := 1440) C dX2_changed_163 (by decide) ?_
        refine v_imul C dX2_changed_166 ?_
        refine v_top (fun x28 ex28 => ?_)
        have hx28 : x28.toInt = ((px i1).toInt * 1440) := by rw [ex28]; exact ti_mul (rfl : Int32.toInt (px i1) = _) (show (1440 : Int32).toInt = 1440 by decide) (by omega) (by omega)
        refine v_iadd C dX2_changed_167 ?_
        refine v_top (fun x29 ex29 => ?_)
        have hx29 : x29.toInt = (v.toInt + ((px i1).toInt * 1440)) := by rw [ex29]; exact ti_add (rfl : Int32.toInt v = _) hx28 (by omega) (by omega)
        exact v_ret C dX2_changed_168 rfl rfl ⟨(by unfold chV; (repeat first | rw [if_pos (by omega)] | rw [if_neg (by omega)]); exact hx29), rfl⟩
      · refine v_iload_n C 3 dX2_changed_153 rfl rfl ?_
        refine v_iload C 4 dX2_changed_154 rfl ?_
        refine v_iadd C dX2_changed_156 ?_
        refine v_top (fun x30 ex30 => ?_)
        have hx30 : x30.toInt = (v.toInt + (px i1).toInt) := by rw [ex30]; exact ti_add (rfl : Int32.toInt v = _) (rfl : Int32.toInt (px i1) = _) (by omega) (by omega)
        refine v_goto C 168 dX2_changed_157 (by decide) ?_
        exact v_ret C dX2_changed_168 rfl rfl ⟨(by unfold chV; (repeat first | rw [if_pos (by omega)] | rw [if_neg (by omega)]); exact hx30), rfl⟩
    · refine v_tableIn (off := 136) C 169 dX2_changed_33 (by omega) (by omega) (by rw [q14v, q14]; rfl) (by decide) ?_
      refine v_aload_n C 0 dX2_changed_169 rfl rfl ?_
      refine v_getr C 49 dX2_changed_170 fX2_15 (by omega) h49 rfl rfl ?_
      refine v_iload_n C 3 dX2_changed_173 rfl rfl ?_
      refine v_iload C 4 dX2_changed_174 rfl ?_
      refine v_iload C 5 dX2_changed_176 rfl ?_
      refine v_cVp C dX2_changed_178 lX2_70 mX0_monthsOn 1 (by omega) hC1 (by decide) rfl (c_monthsOn l G _ ad _ (by omega) hC1 hC2 hC3 hC4 hC5 hP hF v (px i1) (py i1) (by omega) (by omega) (by omega) (by omega) (by omega) (by omega)) ⟨by decide, by decide⟩ rfl (Nat.le_of_ble_eq_true rfl) ⟨Nat.zero_le _, Nat.zero_le _⟩ (fun r31 hp32 => ?_)
      obtain ⟨yy, mm, q1, q2, q3, q4, hp32⟩ := hp32
      rw [mnF_fd hP q1 q2 q3 q4] at hp32
      exact v_ret C dX2_changed_181 rfl rfl ⟨(by unfold chV; (repeat first | rw [if_pos (by omega)] | rw [if_neg (by omega)]); exact hp32), rfl⟩
    · refine v_tableOut C 182 dX2_changed_33 (by omega) (by decide) ?_
      refine v_ldc C dX2_changed_182 kX2_32 ?_
      exact v_ret C dX2_changed_184 rfl rfl (by exfalso; omega)

