set_option maxRecDepth 20000 in
theorem tq_freshZone (l : Launch) (G : Gl) (ad : Nat → Nat) {k : Nat} {Z : (Nat → va_E) → Prop} {Y : Nat → Int32 → (Nat → va_E) → Prop} {E0 E : Nat → va_E} (hJ : JZ l G ad k Z Y E0 E) (x : Int32) : CtQ l G yX8_freshZone cX8_freshZone 3 (.object "OddHours$Zone") 3 73 (98 + 9 * k) ad E [.ref (ad 0), .int x] (fun r E' => ((¬ ((0 : Int) ≤ x.toInt ∧ x.toInt < (k : Int)) ∧ r = none) ∨ ∃ i : Nat, (i : Int) = x.toInt ∧ i < k ∧ r = some (ad (98 + 9 * i)) ∧ ∃ io : Nat → Int32, E' 0 = ob 8 (rfs ad [1, 6, 8, 48, 45, 51]) io ∧ Y (98 + 9 * i) (io 7) E') ∧ JZ l G ad k Z Y E0 E') := by
  refine CtQ.of (by decide) (Nat.le_of_ble_eq_true rfl) (fun X A C => ?_)
  refine v_sub (lv' := [(0, .ref (ad 0)), (1, .int x)]) [0, 1] rfl ?_
  have hk5 := hJ.1.1
  refine v_aload_n C 0 dX8_freshZone_0 rfl rfl ?_
  obtain ⟨io1, hE1⟩ := hJ.c0
  refine v_getr C 0 dX8_freshZone_1 fX8_19 (by omega) hE1 rfl rfl ?_
  refine v_iload_n C 1 dX8_freshZone_4 rfl rfl ?_
  obtain ⟨i4, hE4, hb4⟩ := hJ.1.2.2.getO (b := 6) (by omega) rfl
  refine v_cVr C dX8_freshZone_5 lX8_132 mX7_at 6 (by omega) hE4 (by decide) rfl (t_X7_at l G ad hJ.1 x) ⟨by decide, by decide⟩ rfl (Nat.le_of_ble_eq_true rfl) ⟨Nat.zero_le _, Nat.zero_le _⟩ (fun r2 hp3 => ?_)
  rcases hp3 with ⟨hno5, rfl⟩ | ⟨i5x, hi5, hk5, rfl⟩
  · refine v_astore_nN (lv' := [(0, .ref (ad 0)), (1, .int x), (2, .null)]) C [1, 2, 0] dX8_freshZone_8 rfl (by decide) rfl ?_
    refine v_aload_nN C 2 dX8_freshZone_9 rfl rfl ?_
    refine v_ifnullN C 21 dX8_freshZone_10 (by decide) ?_
    refine v_aload_nN C 2 dX8_freshZone_21 rfl rfl ?_
    exact v_qret (v := none) C dX8_freshZone_22 rfl ⟨Or.inl ⟨by omega, rfl⟩, hJ⟩
  · obtain ⟨b5, eb5⟩ : ∃ q : Nat, q = 98 + 9 * i5x := ⟨_, rfl⟩
    rw [← eb5]
    have hb5 : ZC k b5 := ⟨_, hk5, eb5⟩
    have hb5n := hb5.n
    refine v_astore_n (lv' := [(0, .ref (ad 0)), (1, .int x), (2, .ref (ad b5))]) C [1, 2, 0] dX8_freshZone_8 rfl (by decide) rfl ?_
    refine v_aload_n C 2 dX8_freshZone_9 rfl rfl ?_
    refine v_ifnull C dX8_freshZone_10 ?_
    refine v_aload_n C 2 dX8_freshZone_13 rfl rfl ?_
    refine v_aload_n C 0 dX8_freshZone_14 rfl rfl ?_
    refine v_geti (v := io1 7) C 0 dX8_freshZone_15 fX8_56 (by omega) hE1 rfl rfl ?_
    obtain ⟨i9, hE9, hb9⟩ := hJ.1.2.2.getO (b := b5) (by omega) hb5.t0
    refine v_cVv C dX8_freshZone_18 lX8_283 mX6_refresh b5 (by omega) hE9 (by decide) rfl (ty_X6_refresh l G ad hJ b5 hb5 (io1 7)) ⟨by decide, by decide⟩ rfl (Nat.le_of_ble_eq_true rfl) ⟨Nat.zero_le _, Nat.zero_le _⟩ (fun E6 hp7 => ?_)
    obtain ⟨hJ8, hp7⟩ := hp7
    have hE0n := (hJ8.1.low (j := 0) (by decide)).trans ((hJ.1.low (j := 0) (by decide)).symm.trans hE1)
    refine v_aload_n C 2 dX8_freshZone_21 rfl rfl ?_
    exact v_qret (v := some (ad b5)) C dX8_freshZone_22 rfl ⟨Or.inr ⟨i5x, by omega, by omega, by rw [eb5], io1, hE0n, by rw [← eb5]; exact hp7⟩, hJ8⟩

set_option maxRecDepth 20000 in
theorem k_changes (l : Launch) (G : Gl) (n : Nat) (ad : Nat → Nat) (E : Nat → va_E) {k : Nat} {ic md rf rto ron rat rbe rtd rm fv : Nat → Int32} {E0 : Nat → va_E} (hJ : JZ l G ad k (ZCl G ad k ic md rf rto ron rat rbe rtd rm fv) (ZYc G ad k ic md rf rto ron rat rbe rtd rm fv) E0 E) {kn : Int32} {io : Nat → Int32} (hE0 : E 0 = ob 8 (rfs ad [1, 6, 8, 48, 45, 51]) io) (hkn : io 7 = kn) (hC : CalW G ad E ic md) (x : Int32) : CtI l G yX8_changes cX8_changes 3 .int 4 95 (98 + 9 * k) ad E [.ref (ad 0), .int x] (fun r E' => CHp k (TTz ic md rf rto ron rat rbe rtd rm fv kn.toInt) x.toInt r.toInt ∧ JZ l G ad k (ZCl G ad k ic md rf rto ron rat rbe rtd rm fv) (ZYc G ad k ic md rf rto ron rat rbe rtd rm fv) E0 E') := by
  refine CtI.of (by decide) (Nat.le_of_ble_eq_true rfl) (fun X A C => ?_)
  refine v_sub (lv' := [(0, .ref (ad 0)), (1, .int x)]) [0, 1] rfl ?_
  obtain ⟨ms, ld, ys, hC1, hC2, hC3, hC4, hC5, hP, hF⟩ := id hC
  have hcy := cal_y hP
  have hk5 := hJ.1.1
  refine v_aload_n C 0 dX8_changes_0 rfl rfl ?_
  refine v_iload_n C 1 dX8_changes_1 rfl rfl ?_
  refine v_cVq C dX8_changes_2 lX8_153 mX8_freshZone 0 (by omega) hE0 (by decide) rfl (tq_freshZone l G ad hJ x) ⟨by decide, by decide⟩ rfl (Nat.le_of_ble_eq_true rfl) ⟨Nat.zero_le _, Nat.zero_le _⟩ (fun r0 E1 hp0 => ?_)
  obtain ⟨hp0, hJ1⟩ := hp0
  have hlow : ∀ j, j < 45 → E1 j = E j := fun j hj => (hJ1.1.low hj).trans (hJ.1.low hj).symm
  have cc1 := (hlow 1 (by decide)).trans hC1
  have cc2 := (hlow 2 (by decide)).trans hC2
  have cc3 := (hlow 3 (by decide)).trans hC3
  have cc4 := (hlow 4 (by decide)).trans hC4
  have cc5 := (hlow 5 (by decide)).trans hC5
  have cc0 := (hlow 0 (by decide)).trans hE0
  rcases hp0 with ⟨hno, rfl⟩ | ⟨i, hi, hk, rfl, io1, hE01, hY⟩
  · refine v_astore_nN (lv' := [(0, .ref (ad 0)), (1, .int x), (2, .null)]) C [1, 2, 0] dX8_changes_5 rfl (by decide) rfl ?_
    refine v_aload_nN C 2 dX8_changes_6 rfl rfl ?_
    refine v_ifnonnullN C dX8_changes_7 ?_
    refine v_iconst (v := (-1)) C dX8_changes_10 (by decide) ?_
    refine v_goto C 18 dX8_changes_11 (by decide) ?_
    exact v_ret C dX8_changes_18 rfl rfl ⟨Or.inl ⟨hno, by decide⟩, hJ1⟩
  · have hio : io1 7 = kn := (ob_in (hE01.symm.trans cc0) (q := 7) (by decide) rfl).trans hkn
    have hYb := hY i hk rfl
    rw [hio] at hYb
    obtain ⟨b, eb⟩ : ∃ q : Nat, q = 98 + 9 * i := ⟨_, rfl⟩
    rw [← eb] at hYb ⊢
    obtain ⟨T, hT⟩ : ∃ T : TST, T = (TTz ic md rf rto ron rat rbe rtd rm fv kn.toInt) i := ⟨_, rfl⟩
    rw [← hT] at hYb
    obtain ⟨ib, ss, se, os, c, hB, h6, h7, h8, hc, hcT, hZ, hS⟩ := hYb
    have hb : b + 9 ≤ 98 + 9 * k := by omega
    have hc8 := hS.1
    refine v_astore_n (lv' := [(0, .ref (ad 0)), (1, .int x), (2, .ref (ad b))]) C [1, 2, 0] dX8_changes_5 rfl (by decide) rfl ?_
    refine v_aload_n C 2 dX8_changes_6 rfl rfl ?_
    refine v_ifnonnull C 14 dX8_changes_7 (by decide) ?_
    refine v_aload_n C 2 dX8_changes_14 rfl rfl ?_
    refine v_geti (v := ib 10) C b dX8_changes_15 fX8_156 (by omega) hB rfl rfl ?_
    exact v_ret C dX8_changes_18 rfl rfl ⟨Or.inr ⟨i, hi, hk, by rw [← hT, hc, hcT]⟩, hJ1⟩

set_option maxRecDepth 20000 in
theorem k_change (l : Launch) (G : Gl) (n : Nat) (ad : Nat → Nat) (E : Nat → va_E) {k : Nat} {ic md rf rto ron rat rbe rtd rm fv : Nat → Int32} {E0 : Nat → va_E} (hJ : JZ l G ad k (ZCl G ad k ic md rf rto ron rat rbe rtd rm fv) (ZYc G ad k ic md rf rto ron rat rbe rtd rm fv) E0 E) {kn : Int32} {io : Nat → Int32} (hE0 : E 0 = ob 8 (rfs ad [1, 6, 8, 48, 45, 51]) io) (hkn : io 7 = kn) (hC : CalW G ad E ic md) (x : Int32) (q : Int32) : CtI l G yX8_change cX8_change 4 .int 4 95 (98 + 9 * k) ad E [.ref (ad 0), .int x, .int q] (fun r E' => CGp k (TTz ic md rf rto ron rat rbe rtd rm fv kn.toInt) x.toInt q.toInt r.toInt ∧ JZ l G ad k (ZCl G ad k ic md rf rto ron rat rbe rtd rm fv) (ZYc G ad k ic md rf rto ron rat rbe rtd rm fv) E0 E') := by
  refine CtI.of (by decide) (Nat.le_of_ble_eq_true rfl) (fun X A C => ?_)
  refine v_sub (lv' := [(0, .ref (ad 0)), (1, .int x), (2, .int q)]) [0, 1, 2] rfl ?_
  obtain ⟨ms, ld, ys, hC1, hC2, hC3, hC4, hC5, hP, hF⟩ := id hC
  have hcy := cal_y hP
  have hk5 := hJ.1.1
  refine v_aload_n C 0 dX8_change_0 rfl rfl ?_
  refine v_iload_n C 1 dX8_change_1 rfl rfl ?_
  refine v_cVq C dX8_change_2 lX8_153 mX8_freshZone 0 (by omega) hE0 (by decide) rfl (tq_freshZone l G ad hJ x) ⟨by decide, by decide⟩ rfl (Nat.le_of_ble_eq_true rfl) ⟨Nat.zero_le _, Nat.zero_le _⟩ (fun r0 E1 hp0 => ?_)
  obtain ⟨hp0, hJ1⟩ := hp0
  have hlow : ∀ j, j < 45 → E1 j = E j := fun j hj => (hJ1.1.low hj).trans (hJ.1.low hj).symm
  have cc1 := (hlow 1 (by decide)).trans hC1
  have cc2 := (hlow 2 (by decide)).trans hC2
  have cc3 := (hlow 3 (by decide)).trans hC3
  have cc4 := (hlow 4 (by decide)).trans hC4
  have cc5 := (hlow 5 (by decide)).trans hC5
  have cc0 := (hlow 0 (by decide)).trans hE0
  rcases hp0 with ⟨hno, rfl⟩ | ⟨i, hi, hk, rfl, io1, hE01, hY⟩
  · refine v_astore_nN (lv' := [(0, .ref (ad 0)), (1, .int x), (2, .int q), (3, .null)]) C [1, 2, 3, 0] dX8_change_5 rfl (by decide) rfl ?_
    refine v_aload_nN C 3 dX8_change_6 rfl rfl ?_
    refine v_ifnullN C 22 dX8_change_7 (by decide) ?_
    refine v_iconst (v := (-1)) C dX8_change_22 (by decide) ?_
    exact v_ret C dX8_change_23 rfl rfl ⟨Or.inl ⟨hno, by decide⟩, hJ1⟩
  · have hio : io1 7 = kn := (ob_in (hE01.symm.trans cc0) (q := 7) (by decide) rfl).trans hkn
    have hYb := hY i hk rfl
    rw [hio] at hYb
    obtain ⟨b, eb⟩ : ∃ q : Nat, q = 98 + 9 * i := ⟨_, rfl⟩
    rw [← eb] at hYb ⊢
    obtain ⟨T, hT⟩ : ∃ T : TST, T = (TTz ic md rf rto ron rat rbe rtd rm fv kn.toInt) i := ⟨_, rfl⟩
    rw [← hT] at hYb
    obtain ⟨ib, ss, se, os, c, hB, h6, h7, h8, hc, hcT, hZ, hS⟩ := hYb
    have hb : b + 9 ≤ 98 + 9 * k := by omega
    have hc8 := hS.1
    refine v_astore_n (lv' := [(0, .ref (ad 0)), (1, .int x), (2, .int q), (3, .ref (ad b))]) C [1, 2, 3, 0] dX8_change_5 rfl (by decide) rfl ?_
    refine v_aload_n C 3 dX8_change_6 rfl rfl ?_
    refine v_ifnull C dX8_change_7 ?_
    refine v_iload_n C 2 dX8_change_10 rfl rfl ?_
    refine b_if_lt C 22 dX8_change_11 (by decide) (rfl : Int32.toInt q = _) (fun c1 => ?_) (fun c1 => ?_)
    · refine v_iconst (v := (-1)) C dX8_change_22 (by decide) ?_
      exact v_ret C dX8_change_23 rfl rfl ⟨Or.inr ⟨i, hi, hk, Or.inr ⟨by rw [← hT]; omega, by decide⟩⟩, hJ1⟩
    · refine v_iload_n C 2 dX8_change_14 rfl rfl ?_
      refine v_aload_n C 3 dX8_change_15 rfl rfl ?_
      refine v_geti (v := ib 10) C b dX8_change_16 fX8_156 (by omega) hB rfl rfl ?_
      refine b_icmp_lt C 24 dX8_change_19 (by decide) (rfl : Int32.toInt q = _) hc (fun c2 => ?_) (fun c2 => ?_)
      · refine v_aload_n C 3 dX8_change_24 rfl rfl ?_
        refine v_getr C b dX8_change_25 fX8_159 (by omega) hB rfl rfl ?_
        refine v_iload_n C 2 dX8_change_28 rfl rfl ?_
        refine v_iconst (v := 1) C dX8_change_29 (by decide) ?_
        refine v_iadd C dX8_change_30 ?_
        refine v_top (fun x3 ex3 => ?_)
        have hx3 : x3.toInt = (q.toInt + 1) := by rw [ex3]; exact ti_add (rfl : Int32.toInt q = _) (show (1 : Int32).toInt = 1 by decide) (by omega) (by omega)
        refine v_ald (v := ss (q.toInt.toNat + 1)) C (b + 6) dX8_change_31 (by omega) h6 (ti_in hx3 (by omega) (by omega)) (by rw [ti_cl hx3, show Int.toNat (q.toInt + 1) = q.toInt.toNat + 1 by omega]) ?_
        exact v_ret C dX8_change_32 rfl rfl ⟨Or.inr ⟨i, hi, hk, Or.inl ⟨by omega, by rw [← hT]; omega, by rw [← hT]; exact (hZ.2 (q.toInt.toNat + 1) (by omega)).1⟩⟩, hJ1⟩
      · refine v_iconst (v := (-1)) C dX8_change_22 (by decide) ?_
        exact v_ret C dX8_change_23 rfl rfl ⟨Or.inr ⟨i, hi, hk, Or.inr ⟨by rw [← hT]; omega, by decide⟩⟩, hJ1⟩

set_option maxRecDepth 20000 in
theorem k_offset (l : Launch) (G : Gl) (n : Nat) (ad : Nat → Nat) (E : Nat → va_E) {k : Nat} {ic md rf rto ron rat rbe rtd rm fv : Nat → Int32} {E0 : Nat → va_E} (hJ : JZ l G ad k (ZCl G ad k ic md rf rto ron rat rbe rtd rm fv) (ZYc G ad k ic md rf rto ron rat rbe rtd rm fv) E0 E) {kn : Int32} {io : Nat → Int32} (hE0 : E 0 = ob 8 (rfs ad [1, 6, 8, 48, 45, 51]) io) (hkn : io 7 = kn) (hC : CalW G ad E ic md) (x : Int32) (m : Int32) : CtI l G yX8_offset cX8_offset 4 .int 4 95 (98 + 9 * k) ad E [.ref (ad 0), .int x, .int m] (fun r E' => OFp k (TTz ic md rf rto ron rat rbe rtd rm fv kn.toInt) x.toInt m.toInt r.toInt ∧ JZ l G ad k (ZCl G ad k ic md rf rto ron rat rbe rtd rm fv) (ZYc G ad k ic md rf rto ron rat rbe rtd rm fv) E0 E') := by
  refine CtI.of (by decide) (Nat.le_of_ble_eq_true rfl) (fun X A C => ?_)
  refine v_sub (lv' := [(0, .ref (ad 0)), (1, .int x), (2, .int m)]) [0, 1, 2] rfl ?_
  obtain ⟨ms, ld, ys, hC1, hC2, hC3, hC4, hC5, hP, hF⟩ := id hC
  have hcy := cal_y hP
  have hk5 := hJ.1.1
  refine v_aload_n C 0 dX8_offset_0 rfl rfl ?_
  refine v_iload_n C 1 dX8_offset_1 rfl rfl ?_
  refine v_cVq C dX8_offset_2 lX8_153 mX8_freshZone 0 (by omega) hE0 (by decide) rfl (tq_freshZone l G ad hJ x) ⟨by decide, by decide⟩ rfl (Nat.le_of_ble_eq_true rfl) ⟨Nat.zero_le _, Nat.zero_le _⟩ (fun r0 E1 hp0 => ?_)
  obtain ⟨hp0, hJ1⟩ := hp0
  have hlow : ∀ j, j < 45 → E1 j = E j := fun j hj => (hJ1.1.low hj).trans (hJ.1.low hj).symm
  have cc1 := (hlow 1 (by decide)).trans hC1
  have cc2 := (hlow 2 (by decide)).trans hC2
  have cc3 := (hlow 3 (by decide)).trans hC3
  have cc4 := (hlow 4 (by decide)).trans hC4
  have cc5 := (hlow 5 (by decide)).trans hC5
  have cc0 := (hlow 0 (by decide)).trans hE0
  rcases hp0 with ⟨hno, rfl⟩ | ⟨i, hi, hk, rfl, io1, hE01, hY⟩
  · refine v_astore_nN (lv' := [(0, .ref (ad 0)), (1, .int x), (2, .int m), (3, .null)]) C [1, 2, 3, 0] dX8_offset_5 rfl (by decide) rfl ?_
    refine v_aload_nN C 3 dX8_offset_6 rfl rfl ?_
    refine v_ifnullN C 17 dX8_offset_7 (by decide) ?_
    refine v_sipush (v := (-9999)) C dX8_offset_17 (by decide) ?_
    exact v_ret C dX8_offset_20 rfl rfl ⟨Or.inl ⟨fun q => hno q.1, by decide⟩, hJ1⟩
  · have hio : io1 7 = kn := (ob_in (hE01.symm.trans cc0) (q := 7) (by decide) rfl).trans hkn
    have hYb := hY i hk rfl
    rw [hio] at hYb
    obtain ⟨b, eb⟩ : ∃ q : Nat, q = 98 + 9 * i := ⟨_, rfl⟩
    rw [← eb] at hYb ⊢
    obtain ⟨T, hT⟩ : ∃ T : TST, T = (TTz ic md rf rto ron rat rbe rtd rm fv kn.toInt) i := ⟨_, rfl⟩
    rw [← hT] at hYb
    obtain ⟨ib, ss, se, os, c, hB, h6, h7, h8, hc, hcT, hZ, hS⟩ := hYb
    have hb : b + 9 ≤ 98 + 9 * k := by omega
    have hc8 := hS.1
    refine v_astore_n (lv' := [(0, .ref (ad 0)), (1, .int x), (2, .int m), (3, .ref (ad b))]) C [1, 2, 3, 0] dX8_offset_5 rfl (by decide) rfl ?_
    refine v_aload_n C 3 dX8_offset_6 rfl rfl ?_
    refine v_ifnull C dX8_offset_7 ?_
    refine v_iload_n C 2 dX8_offset_10 rfl rfl ?_
    refine v_cSp C dX8_offset_11 lX8_162 mX8_isMoment (c_isMoment l G _ ad _ m) ⟨by decide, by decide⟩ rfl (Nat.le_of_ble_eq_true rfl) ⟨Nat.zero_le _, Nat.zero_le _⟩ (fun r1 hp2 => ?_)
    rcases hp2 with ⟨rfl, hp2⟩ | ⟨rfl, hp2⟩
    · refine b_if_ne C 21 dX8_offset_14 (by decide) (show (1 : Int32).toInt = 1 by decide) (fun c3 => ?_) (fun c3 => absurd c3 (by decide))
      refine v_aload_n C 3 dX8_offset_21 rfl rfl ?_
      refine v_iload_n C 2 dX8_offset_22 rfl rfl ?_
      refine v_cVp C dX8_offset_23 lX8_165 mX6_offsetAt b (by omega) hB (by decide) rfl (z_offset l G (98 + 9 * k) ad _ b hb hB h6 h7 h8 hc hS m) ⟨by decide, by decide⟩ rfl (Nat.le_of_ble_eq_true rfl) ⟨Nat.zero_le _, Nat.zero_le _⟩ (fun r4 hp5 => ?_)
      obtain ⟨j, hST, hrj⟩ := hp5
      have hTT := isST_T hcT hZ hST
      have hrv : r4.toInt = T.2.2 j := by rw [hrj]; exact (hZ.2 j hTT.1).2
      have hrb := hS.2.2.2.2.1 j (by have := hTT.1; omega)
      rw [← hrj, hrv] at hrb
      exact v_ret C dX8_offset_26 rfl rfl ⟨Or.inr ⟨i, j, hi, hk, hp2, by rw [← hT]; exact hTT, by rw [← hT]; exact hrv⟩, hJ1⟩
    · refine b_if_ne C 21 dX8_offset_14 (by decide) (show (0 : Int32).toInt = 0 by decide) (fun c6 => absurd c6 (by decide)) (fun c6 => ?_)
      refine v_sipush (v := (-9999)) C dX8_offset_17 (by decide) ?_
      exact v_ret C dX8_offset_20 rfl rfl ⟨Or.inl ⟨fun q => hp2 q.2, by decide⟩, hJ1⟩

set_option maxRecDepth 20000 in
theorem k_wall (l : Launch) (G : Gl) (n : Nat) (ad : Nat → Nat) (E : Nat → va_E) {k : Nat} {ic md rf rto ron rat rbe rtd rm fv : Nat → Int32} {E0 : Nat → va_E} (hJ : JZ l G ad k (ZCl G ad k ic md rf rto ron rat rbe rtd rm fv) (ZYc G ad k ic md rf rto ron rat rbe rtd rm fv) E0 E) {kn : Int32} {io : Nat → Int32} (hE0 : E 0 = ob 8 (rfs ad [1, 6, 8, 48, 45, 51]) io) (hkn : io 7 = kn) (hC : CalW G ad E ic md) (x : Int32) (m : Int32) : CtI l G yX8_wall cX8_wall 5 .int 4 95 (98 + 9 * k) ad E [.ref (ad 0), .int x, .int m] (fun r E' => WAp ic md k (TTz ic md rf rto ron rat rbe rtd rm fv kn.toInt) x.toInt m.toInt r.toInt ∧ JZ l G ad k (ZCl G ad k ic md rf rto ron rat rbe rtd rm fv) (ZYc G ad k ic md rf rto ron rat rbe rtd rm fv) E0 E') := by
  refine CtI.of (by decide) (Nat.le_of_ble_eq_true rfl) (fun X A C => ?_)
  refine v_sub (lv' := [(0, .ref (ad 0)), (1, .int x), (2, .int m)]) [0, 1, 2] rfl ?_
  obtain ⟨ms, ld, ys, hC1, hC2, hC3, hC4, hC5, hP, hF⟩ := id hC
  have hcy := cal_y hP
  have hk5 := hJ.1.1
  refine v_aload_n C 0 dX8_wall_0 rfl rfl ?_
  refine v_iload_n C 1 dX8_wall_1 rfl rfl ?_
  refine v_cVq C dX8_wall_2 lX8_153 mX8_freshZone 0 (by omega) hE0 (by decide) rfl (tq_freshZone l G ad hJ x) ⟨by decide, by decide⟩ rfl (Nat.le_of_ble_eq_true rfl) ⟨Nat.zero_le _, Nat.zero_le _⟩ (fun r0 E1 hp0 => ?_)
  obtain ⟨hp0, hJ1⟩ := hp0
  have hlow : ∀ j, j < 45 → E1 j = E j := fun j hj => (hJ1.1.low hj).trans (hJ.1.low hj).symm
  have cc1 := (hlow 1 (by decide)).trans hC1
  have cc2 := (hlow 2 (by decide)).trans hC2
  have cc3 := (hlow 3 (by decide)).trans hC3
  have cc4 := (hlow 4 (by decide)).trans hC4
  have cc5 := (hlow 5 (by decide)).trans hC5
  have cc0 := (hlow 0 (by decide)).trans hE0
  rcases hp0 with ⟨hno, rfl⟩ | ⟨i, hi, hk, rfl, io1, hE01, hY⟩
  · refine v_astore_nN (lv' := [(0, .ref (ad 0)), (1, .int x), (2, .int m), (3, .null)]) C [1, 2, 3, 0] dX8_wall_5 rfl (by decide) rfl ?_
    refine v_aload_nN C 3 dX8_wall_6 rfl rfl ?_
    refine v_ifnullN C 17 dX8_wall_7 (by decide) ?_
    refine v_iconst (v := (-1)) C dX8_wall_17 (by decide) ?_
    exact v_ret C dX8_wall_18 rfl rfl ⟨Or.inl ⟨fun q => hno q.1, by decide⟩, hJ1⟩
  · have hio : io1 7 = kn := (ob_in (hE01.symm.trans cc0) (q := 7) (by decide) rfl).trans hkn
    have hYb := hY i hk rfl
    rw [hio] at hYb
    obtain ⟨b, eb⟩ : ∃ q : Nat, q = 98 + 9 * i := ⟨_, rfl⟩
    rw [← eb] at hYb ⊢
    obtain ⟨T, hT⟩ : ∃ T : TST, T = (TTz ic md rf rto ron rat rbe rtd rm fv kn.toInt) i := ⟨_, rfl⟩
    rw [← hT] at hYb
    obtain ⟨ib, ss, se, os, c, hB, h6, h7, h8, hc, hcT, hZ, hS⟩ := hYb
    have hb : b + 9 ≤ 98 + 9 * k := by omega
    have hc8 := hS.1
    refine v_astore_n (lv' := [(0, .ref (ad 0)), (1, .int x), (2, .int m), (3, .ref (ad b))]) C [1, 2, 3, 0] dX8_wall_5 rfl (by decide) rfl ?_
    refine v_aload_n C 3 dX8_wall_6 rfl rfl ?_
    refine v_ifnull C dX8_wall_7 ?_
    refine v_iload_n C 2 dX8_wall_10 rfl rfl ?_
    refine v_cSp C dX8_wall_11 lX8_162 mX8_isMoment (c_isMoment l G _ ad _ m) ⟨by decide, by decide⟩ rfl (Nat.le_of_ble_eq_true rfl) ⟨Nat.zero_le _, Nat.zero_le _⟩ (fun r1 hp2 => ?_)
    rcases hp2 with ⟨rfl, hp2⟩ | ⟨rfl, hp2⟩
    · refine b_if_ne C 19 dX8_wall_14 (by decide) (show (1 : Int32).toInt = 1 by decide) (fun c3 => ?_) (fun c3 => absurd c3 (by decide))
      refine v_iload_n C 2 dX8_wall_19 rfl rfl ?_
      refine v_aload_n C 3 dX8_wall_20 rfl rfl ?_
      refine v_iload_n C 2 dX8_wall_21 rfl rfl ?_
      refine v_cVp C dX8_wall_22 lX8_165 mX6_offsetAt b (by omega) hB (by decide) rfl (z_offset l G (98 + 9 * k) ad _ b hb hB h6 h7 h8 hc hS m) ⟨by decide, by decide⟩ rfl (Nat.le_of_ble_eq_true rfl) ⟨Nat.zero_le _, Nat.zero_le _⟩ (fun r4 hp5 => ?_)
      obtain ⟨j, hST, hrj⟩ := hp5
      have hTT := isST_T hcT hZ hST
      have hrv : r4.toInt = T.2.2 j := by rw [hrj]; exact (hZ.2 j hTT.1).2
      have hrb := hS.2.2.2.2.1 j (by have := hTT.1; omega)
      rw [← hrj, hrv] at hrb
      refine v_iadd C dX8_wall_25 ?_
      refine v_top (fun x6 ex6 => ?_)
      have hx6 : x6.toInt = (m.toInt + (T.2.2 j)) := by rw [ex6]; exact ti_add (rfl : Int32.toInt m = _) hrv (by omega) (by omega)
      refine v_istore (lv' := [(0, .ref (ad 0)), (1, .int x), (2, .int m), (3, .ref (ad b)), (4, .int x6)]) C [1, 2, 3, 4, 0] dX8_wall_26 (by decide) rfl ?_
      refine v_aload_n C 0 dX8_wall_28 rfl rfl ?_
      refine v_getr C 0 dX8_wall_29 fX8_12 (by omega) cc0 rfl rfl ?_
      refine v_iload C 4 dX8_wall_32 rfl ?_
      refine v_cVp C dX8_wall_34 lX8_168 mX0_hasWall 1 (by omega) cc1 (by decide) rfl (c_hasWall l G _ ad _ (by omega) cc1 cc2 cc3 cc4 cc5 hP hF x6) ⟨by decide, by decide⟩ rfl (Nat.le_of_ble_eq_true rfl) ⟨Nat.zero_le _, Nat.zero_le _⟩ (fun r7 hp8 => ?_)
      rcases hp8 with ⟨rfl, hp8⟩ | ⟨rfl, hp8⟩
      · rw [hx6] at hp8
        refine b_if_eq C 45 dX8_wall_37 (by decide) (show (1 : Int32).toInt = 1 by decide) (fun c9 => absurd c9 (by decide)) (fun c9 => ?_)
        refine v_iload C 4 dX8_wall_40 rfl ?_
        refine v_goto C 47 dX8_wall_42 (by decide) ?_
        exact v_ret C dX8_wall_47 rfl rfl ⟨Or.inr ⟨i, j, hi, hk, hp2, by rw [← hT]; exact hTT, Or.inl ⟨by rw [← hT]; exact hp8, by rw [← hT]; exact hx6⟩⟩, hJ1⟩
      · rw [hx6] at hp8
        refine b_if_eq C 45 dX8_wall_37 (by decide) (show (0 : Int32).toInt = 0 by decide) (fun c10 => ?_) (fun c10 => absurd c10 (by decide))
        refine v_bipush (v := (-6)) C dX8_wall_45 (by decide) ?_
        exact v_ret C dX8_wall_47 rfl rfl ⟨Or.inr ⟨i, j, hi, hk, hp2, by rw [← hT]; exact hTT, Or.inr ⟨by rw [← hT]; exact hp8, by decide⟩⟩, hJ1⟩
    · refine b_if_ne C 19 dX8_wall_14 (by decide) (show (0 : Int32).toInt = 0 by decide) (fun c11 => absurd c11 (by decide)) (fun c11 => ?_)
      refine v_iconst (v := (-1)) C dX8_wall_17 (by decide) ?_
      exact v_ret C dX8_wall_18 rfl rfl ⟨Or.inl ⟨fun q => hp2 q.2, by decide⟩, hJ1⟩

set_option maxRecDepth 20000 in
theorem k_moments (l : Launch) (G : Gl) (n : Nat) (ad : Nat → Nat) (E : Nat → va_E) {k : Nat} {ic md rf rto ron rat rbe rtd rm fv : Nat → Int32} {E0 : Nat → va_E} (hJ : JZ l G ad k (ZCl G ad k ic md rf rto ron rat rbe rtd rm fv) (ZYc G ad k ic md rf rto ron rat rbe rtd rm fv) E0 E) {kn : Int32} {io : Nat → Int32} (hE0 : E 0 = ob 8 (rfs ad [1, 6, 8, 48, 45, 51]) io) (hkn : io 7 = kn) (hC : CalW G ad E ic md) (x : Int32) (w : Int32) : CtI l G yX8_moments cX8_moments 4 .int 4 95 (98 + 9 * k) ad E [.ref (ad 0), .int x, .int w] (fun r E' => MSp ic md k (TTz ic md rf rto ron rat rbe rtd rm fv kn.toInt) x.toInt w.toInt r.toInt ∧ JZ l G ad k (ZCl G ad k ic md rf rto ron rat rbe rtd rm fv) (ZYc G ad k ic md rf rto ron rat rbe rtd rm fv) E0 E') := by
  refine CtI.of (by decide) (Nat.le_of_ble_eq_true rfl) (fun X A C => ?_)
  refine v_sub (lv' := [(0, .ref (ad 0)), (1, .int x), (2, .int w)]) [0, 1, 2] rfl ?_
  obtain ⟨ms, ld, ys, hC1, hC2, hC3, hC4, hC5, hP, hF⟩ := id hC
  have hcy := cal_y hP
  have hk5 := hJ.1.1
  refine v_aload_n C 0 dX8_moments_0 rfl rfl ?_
  refine v_iload_n C 1 dX8_moments_1 rfl rfl ?_
  refine v_cVq C dX8_moments_2 lX8_153 mX8_freshZone 0 (by omega) hE0 (by decide) rfl (tq_freshZone l G ad hJ x) ⟨by decide, by decide⟩ rfl (Nat.le_of_ble_eq_true rfl) ⟨Nat.zero_le _, Nat.zero_le _⟩ (fun r0 E1 hp0 => ?_)
  obtain ⟨hp0, hJ1⟩ := hp0
  have hlow : ∀ j, j < 45 → E1 j = E j := fun j hj => (hJ1.1.low hj).trans (hJ.1.low hj).symm
  have cc1 := (hlow 1 (by decide)).trans hC1
  have cc2 := (hlow 2 (by decide)).trans hC2
  have cc3 := (hlow 3 (by decide)).trans hC3
  have cc4 := (hlow 4 (by decide)).trans hC4
  have cc5 := (hlow 5 (by decide)).trans hC5
  have cc0 := (hlow 0 (by decide)).trans hE0
  rcases hp0 with ⟨hno, rfl⟩ | ⟨i, hi, hk, rfl, io1, hE01, hY⟩
  · refine v_astore_nN (lv' := [(0, .ref (ad 0)), (1, .int x), (2, .int w), (3, .null)]) C [1, 2, 3, 0] dX8_moments_5 rfl (by decide) rfl ?_
    refine v_aload_nN C 3 dX8_moments_6 rfl rfl ?_
    refine v_ifnullN C 21 dX8_moments_7 (by decide) ?_
    refine v_iconst (v := (-1)) C dX8_moments_21 (by decide) ?_
    exact v_ret C dX8_moments_22 rfl rfl ⟨Or.inl ⟨fun q => hno q.1, by decide⟩, hJ1⟩
  · have hio : io1 7 = kn := (ob_in (hE01.symm.trans cc0) (q := 7) (by decide) rfl).trans hkn
    have hYb := hY i hk rfl
    rw [hio] at hYb
    obtain ⟨b, eb⟩ : ∃ q : Nat, q = 98 + 9 * i := ⟨_, rfl⟩
    rw [← eb] at hYb ⊢
    obtain ⟨T, hT⟩ : ∃ T : TST, T = (TTz ic md rf rto ron rat rbe rtd rm fv kn.toInt) i := ⟨_, rfl⟩
    rw [← hT] at hYb
    obtain ⟨ib, ss, se, os, c, hB, h6, h7, h8, hc, hcT, hZ, hS⟩ := hYb
    have hb : b + 9 ≤ 98 + 9 * k := by omega
    have hc8 := hS.1
    refine v_astore_n (lv' := [(0, .ref (ad 0)), (1, .int x), (2, .int w), (3, .ref (ad b))]) C [1, 2, 3, 0] dX8_moments_5 rfl (by decide) rfl ?_
    refine v_aload_n C 3 dX8_moments_6 rfl rfl ?_
    refine v_ifnull C dX8_moments_7 ?_
    refine v_aload_n C 0 dX8_moments_10 rfl rfl ?_
    refine v_getr C 0 dX8_moments_11 fX8_12 (by omega) cc0 rfl rfl ?_
    refine v_iload_n C 2 dX8_moments_14 rfl rfl ?_
    refine v_cVp C dX8_moments_15 lX8_168 mX0_hasWall 1 (by omega) cc1 (by decide) rfl (c_hasWall l G _ ad _ (by omega) cc1 cc2 cc3 cc4 cc5 hP hF w) ⟨by decide, by decide⟩ rfl (Nat.le_of_ble_eq_true rfl) ⟨Nat.zero_le _, Nat.zero_le _⟩ (fun r1 hp2 => ?_)
    rcases hp2 with ⟨rfl, hp2⟩ | ⟨rfl, hp2⟩
    · refine b_if_ne C 23 dX8_moments_18 (by decide) (show (1 : Int32).toInt = 1 by decide) (fun c3 => ?_) (fun c3 => absurd c3 (by decide))
      refine v_aload_n C 3 dX8_moments_23 rfl rfl ?_
      refine v_iload_n C 2 dX8_moments_24 rfl rfl ?_
      refine v_cVp C dX8_moments_25 lX8_171 mX6_momentsOf b (by omega) hB (by decide) rfl (z_moments l G (98 + 9 * k) ad _ b hb hB h6 h7 h8 hc hS w (by omega)) ⟨by decide, by decide⟩ rfl (Nat.le_of_ble_eq_true rfl) ⟨Nat.zero_le _, Nat.zero_le _⟩ (fun r4 hp5 => ?_)
      rw [cntH_T hcT hZ hS (c + 1) (Nat.le_refl _), hcT] at hp5
      exact v_ret C dX8_moments_28 rfl rfl ⟨Or.inr ⟨i, hi, hk, hp2, by rw [← hT]; exact hp5⟩, hJ1⟩
    · refine b_if_ne C 23 dX8_moments_18 (by decide) (show (0 : Int32).toInt = 0 by decide) (fun c6 => absurd c6 (by decide)) (fun c6 => ?_)
      refine v_iconst (v := (-1)) C dX8_moments_21 (by decide) ?_
      exact v_ret C dX8_moments_22 rfl rfl ⟨Or.inl ⟨fun q => hp2 q.2, by decide⟩, hJ1⟩

set_option maxRecDepth 20000 in
theorem k_moment (l : Launch) (G : Gl) (n : Nat) (ad : Nat → Nat) (E : Nat → va_E) {k : Nat} {ic md rf rto ron rat rbe rtd rm fv : Nat → Int32} {E0 : Nat → va_E} (hJ : JZ l G ad k (ZCl G ad k ic md rf rto ron rat rbe rtd rm fv) (ZYc G ad k ic md rf rto ron rat rbe rtd rm fv) E0 E) {kn : Int32} {io : Nat → Int32} (hE0 : E 0 = ob 8 (rfs ad [1, 6, 8, 48, 45, 51]) io) (hkn : io 7 = kn) (hC : CalW G ad E ic md) (x : Int32) (w : Int32) (q : Int32) : CtI l G yX8_moment cX8_moment 6 .int 4 95 (98 + 9 * k) ad E [.ref (ad 0), .int x, .int w, .int q] (fun r E' => MTp ic md k (TTz ic md rf rto ron rat rbe rtd rm fv kn.toInt) x.toInt w.toInt q.toInt r.toInt ∧ JZ l G ad k (ZCl G ad k ic md rf rto ron rat rbe rtd rm fv) (ZYc G ad k ic md rf rto ron rat rbe rtd rm fv) E0 E') := by
  refine CtI.of (by decide) (Nat.le_of_ble_eq_true rfl) (fun X A C => ?_)
  refine v_sub (lv' := [(0, .ref (ad 0)), (1, .int x), (2, .int w), (3, .int q)]) [0, 1, 2, 3] rfl ?_
  obtain ⟨ms, ld, ys, hC1, hC2, hC3, hC4, hC5, hP, hF⟩ := id hC
  have hcy := cal_y hP
  have hk5 := hJ.1.1
  refine v_aload_n C 0 dX8_moment_0 rfl rfl ?_
  refine v_iload_n C 1 dX8_moment_1 rfl rfl ?_
  refine v_cVq C dX8_moment_2 lX8_153 mX8_freshZone 0 (by omega) hE0 (by decide) rfl (tq_freshZone l G ad hJ x) ⟨by decide, by decide⟩ rfl (Nat.le_of_ble_eq_true rfl) ⟨Nat.zero_le _, Nat.zero_le _⟩ (fun r0 E1 hp0 => ?_)
  obtain ⟨hp0, hJ1⟩ := hp0
  have hlow : ∀ j, j < 45 → E1 j = E j := fun j hj => (hJ1.1.low hj).trans (hJ.1.low hj).symm
  have cc1 := (hlow 1 (by decide)).trans hC1
  have cc2 := (hlow 2 (by decide)).trans hC2
  have cc3 := (hlow 3 (by decide)).trans hC3
  have cc4 := (hlow 4 (by decide)).trans hC4
  have cc5 := (hlow 5 (by decide)).trans hC5
  have cc0 := (hlow 0 (by decide)).trans hE0
  rcases hp0 with ⟨hno, rfl⟩ | ⟨i, hi, hk, rfl, io1, hE01, hY⟩
  · refine v_astoreN (lv' := [(0, .ref (ad 0)), (1, .int x), (2, .int w), (3, .int q), (4, .null)]) C [1, 2, 3, 4, 0] dX8_moment_5 (by decide) rfl ?_
    refine v_aloadN C 4 dX8_moment_7 rfl ?_
    refine v_ifnullN C 23 dX8_moment_9 (by decide) ?_
    refine v_iconst (v := (-1)) C dX8_moment_23 (by decide) ?_
    exact v_ret C dX8_moment_24 rfl rfl ⟨Or.inl ⟨fun q => hno q.1, by decide⟩, hJ1⟩
  · have hio : io1 7 = kn := (ob_in (hE01.symm.trans cc0) (q := 7) (by decide) rfl).trans hkn
    have hYb := hY i hk rfl
    rw [hio] at hYb
    obtain ⟨b, eb⟩ : ∃ q : Nat, q = 98 + 9 * i := ⟨_, rfl⟩
    rw [← eb] at hYb ⊢
    obtain ⟨T, hT⟩ : ∃ T : TST, T = (TTz ic md rf rto ron rat rbe rtd rm fv kn.toInt) i := ⟨_, rfl⟩
    rw [← hT] at hYb
    obtain ⟨ib, ss, se, os, c, hB, h6, h7, h8, hc, hcT, hZ, hS⟩ := hYb
    have hb : b + 9 ≤ 98 + 9 * k := by omega
    have hc8 := hS.1
    refine v_astore (lv' := [(0, .ref (ad 0)), (1, .int x), (2, .int w), (3, .int q), (4, .ref (ad b))]) C [1, 2, 3, 4, 0] dX8_moment_5 (by decide) rfl ?_
    refine v_aload C 4 dX8_moment_7 rfl ?_
    refine v_ifnull C dX8_moment_9 ?_
    refine v_aload_n C 0 dX8_moment_12 rfl rfl ?_
    refine v_getr C 0 dX8_moment_13 fX8_12 (by omega) cc0 rfl rfl ?_
    refine v_iload_n C 2 dX8_moment_16 rfl rfl ?_
    refine v_cVp C dX8_moment_17 lX8_168 mX0_hasWall 1 (by omega) cc1 (by decide) rfl (c_hasWall l G _ ad _ (by omega) cc1 cc2 cc3 cc4 cc5 hP hF w) ⟨by decide, by decide⟩ rfl (Nat.le_of_ble_eq_true rfl) ⟨Nat.zero_le _, Nat.zero_le _⟩ (fun r1 hp2 => ?_)
    rcases hp2 with ⟨rfl, hp2⟩ | ⟨rfl, hp2⟩
    · refine b_if_ne C 25 dX8_moment_20 (by decide) (show (1 : Int32).toInt = 1 by decide) (fun c3 => ?_) (fun c3 => absurd c3 (by decide))
      refine v_aload C 4 dX8_moment_25 rfl ?_
      refine v_iload_n C 2 dX8_moment_27 rfl rfl ?_
      refine v_iload_n C 3 dX8_moment_28 rfl rfl ?_
      refine v_cVp C dX8_moment_29 lX8_174 mX6_momentOf b (by omega) hB (by decide) rfl (z_moment l G (98 + 9 * k) ad _ b hb hB h6 h7 h8 hc hS w q (by omega)) ⟨by decide, by decide⟩ rfl (Nat.le_of_ble_eq_true rfl) ⟨Nat.zero_le _, Nat.zero_le _⟩ (fun r4 hp5 => ?_)
      have hMo := Mo_T hcT hZ hS hp5
      refine v_istore (lv' := [(0, .ref (ad 0)), (1, .int x), (2, .int w), (3, .int q), (4, .ref (ad b)), (5, .int r4)]) C [1, 2, 3, 4, 5, 0] dX8_moment_32 (by decide) rfl ?_
      refine v_iload C 5 dX8_moment_34 rfl ?_
      refine v_iconst (v := (-1)) C dX8_moment_36 (by decide) ?_
      refine b_icmp_ne C 45 dX8_moment_37 (by decide) (rfl : Int32.toInt r4 = _) (show ((-1) : Int32).toInt = (-1) by decide) (fun c6 => ?_) (fun c6 => ?_)
      · refine v_iload C 5 dX8_moment_45 rfl ?_
        exact v_ret C dX8_moment_47 rfl rfl ⟨Or.inr ⟨i, _, hi, hk, hp2, by rw [← hT]; exact hMo, by rw [if_neg (by omega)]⟩, hJ1⟩
      · refine v_bipush (v := (-6)) C dX8_moment_40 (by decide) ?_
        refine v_goto C 47 dX8_moment_42 (by decide) ?_
        exact v_ret C dX8_moment_47 rfl rfl ⟨Or.inr ⟨i, _, hi, hk, hp2, by rw [← hT]; exact hMo, by rw [if_pos (by omega)]; decide⟩, hJ1⟩
    · refine b_if_ne C 25 dX8_moment_20 (by decide) (show (0 : Int32).toInt = 0 by decide) (fun c7 => absurd c7 (by decide)) (fun c7 => ?_)
      refine v_iconst (v := (-1)) C dX8_moment_23 (by decide) ?_
      exact v_ret C dX8_moment_24 rfl rfl ⟨Or.inl ⟨fun q => hp2 q.2, by decide⟩, hJ1⟩

