set_option maxRecDepth 20000 in
theorem y_isWall (l : Launch) (G : Gl) (n : Nat) (ad : Nat → Nat) (E : Nat → va_E) (hn : 98 ≤ n) {im ic md : Nat → Int32} (hW : MCal G ad E im ic md) (w : Int32) : CtI l G yX9_isWall cX9_isWall 2 .boolean 4 85 (n) ad E [.ref (ad 68), .int w] (fun r E' => ((r = 1 ∧ okW ic md w.toInt) ∨ (r = 0 ∧ ¬ okW ic md w.toInt)) ∧ MR G ad E E' im ic md) := by
  refine CtI.of (by decide) (Nat.le_of_ble_eq_true rfl) (fun X A C => ?_)
  refine v_sub (lv' := [(0, .ref (ad 68)), (1, .int w)]) [0, 1] rfl ?_
  have h68 := hW.2.2.1
  refine v_iload_n C 1 dX9_isWall_0 rfl rfl ?_
  refine b_if_lt C 20 dX9_isWall_1 (by decide) (rfl : Int32.toInt w = _) (fun c1 => ?_) (fun c1 => ?_)
  · refine v_iconst (v := 0) C dX9_isWall_20 (by decide) ?_
    exact v_ret C dX9_isWall_21 rfl rfl ⟨Or.inr ⟨rfl, by unfold okW; omega⟩, MR.refl hW⟩
  · refine v_aload_n C 0 dX9_isWall_4 rfl rfl ?_
    refine v_iload_n C 1 dX9_isWall_5 rfl rfl ?_
    refine v_sipush (v := 1440) C dX9_isWall_6 (by decide) ?_
    refine v_idiv C dX9_isWall_9 (by decide) ?_
    refine v_top (fun x2 ex2 => ?_)
    have hx2 : x2.toInt = (w.toInt / 1440) := by rw [ex2]; exact ti_div (rfl : Int32.toInt w = _) (show (1440 : Int32).toInt = 1440 by decide) (by omega) (by omega)
    refine v_cVi C dX9_isWall_10 lX9_141 mX9_isDay 68 (by omega) h68 (by decide) rfl (d_isDay l G n ad _ hn hW x2) ⟨by decide, by decide⟩ rfl (Nat.le_of_ble_eq_true rfl) ⟨Nat.zero_le _, Nat.zero_le _⟩ (fun r3 E5 hp4 => ?_)
    obtain ⟨hp4, hp4m⟩ := hp4
    rw [hx2] at hp4
    rcases hp4 with ⟨rfl, hp4⟩ | ⟨rfl, hp4⟩
    · refine b_if_eq C 20 dX9_isWall_13 (by decide) (show (1 : Int32).toInt = 1 by decide) (fun c6 => absurd c6 (by decide)) (fun c6 => ?_)
      refine v_iconst (v := 1) C dX9_isWall_16 (by decide) ?_
      refine v_goto C 21 dX9_isWall_17 (by decide) ?_
      exact v_ret C dX9_isWall_21 rfl rfl ⟨Or.inl ⟨rfl, by unfold okW; omega⟩, hp4m⟩
    · refine b_if_eq C 20 dX9_isWall_13 (by decide) (show (0 : Int32).toInt = 0 by decide) (fun c7 => ?_) (fun c7 => absurd c7 (by decide))
      refine v_iconst (v := 0) C dX9_isWall_20 (by decide) ?_
      exact v_ret C dX9_isWall_21 rfl rfl ⟨Or.inr ⟨rfl, by unfold okW; omega⟩, hp4m⟩

set_option maxRecDepth 20000 in
theorem y_changes (l : Launch) (G : Gl) (n : Nat) (ad : Nat → Nat) (E : Nat → va_E) (hn : 98 ≤ n) {im ic md : Nat → Int32} (hW : MCal G ad E im ic md) {rf rto ron rat rbe rtd rm fv : Nat → Int32} (hR : ZMr G E rf rto ron rat rbe rtd rm fv) {TT : Nat → TST} (hS : ZMs G E 5 TT) (hTT : ∀ z, z < 5 → TT z = TTz ic md rf rto ron rat rbe rtd rm fv (im 18).toInt z) (hV : ∀ z, z < 5 → RZv ic rf rto ron rat rbe rtd rm fv z) {k : Nat} (hk : (im 16).toInt = (k : Int)) (hk5 : k ≤ 5) (z : Int32) : CtI l G yX9_changes cX9_changes 2 .int 4 96 (n) ad E [.ref (ad 68), .int z] (fun r E' => CHp k TT z.toInt r.toInt ∧ FQ G ad E E' im ic md 5 TT ∧ ∀ q : Nat, (q : Int) = z.toInt → q < k → ZMf G E' q (TT q)) := by
  refine CtI.of (by decide) (Nat.le_of_ble_eq_true rfl) (fun X A C => ?_)
  refine v_sub (lv' := [(0, .ref (ad 68)), (1, .int z)]) [0, 1] rfl ?_
  have hP := hW.2.1
  have h68 := hW.2.2.1
  have hcy := cal_y hP
  have h8T : ∀ z, z < 5 → (TT z).1 ≤ 800 := fun z hz => by rw [hTT z hz]; exact (TTz_ok hP (hV z hz)).2
  have hokT : ∀ z, z < 5 → okT 69300000 (TT z) := fun z hz => by rw [hTT z hz]; exact (TTz_ok hP (hV z hz)).1
  refine v_aload_n C 0 dX9_changes_0 rfl rfl ?_
  refine v_iload_n C 1 dX9_changes_1 rfl rfl ?_
  refine v_cVp C dX9_changes_2 lX9_162 mX9_isZone 68 (by omega) h68 (by decide) rfl (e_isZone l G n ad _ hn h68 z) ⟨by decide, by decide⟩ rfl (Nat.le_of_ble_eq_true rfl) ⟨Nat.zero_le _, Nat.zero_le _⟩ (fun r1 hp2 => ?_)
  rcases hp2 with ⟨rfl, hp2⟩ | ⟨rfl, hp2⟩
  · rw [hk] at hp2
    obtain ⟨zz, hz⟩ : ∃ q : Nat, z.toInt = (q : Int) := ⟨z.toInt.toNat, by omega⟩
    have hzz : zz < k := by omega
    refine b_if_ne C 10 dX9_changes_5 (by decide) (show (1 : Int32).toInt = 1 by decide) (fun c3 => ?_) (fun c3 => absurd c3 (by decide))
    refine v_aload_n C 0 dX9_changes_10 rfl rfl ?_
    refine v_iload_n C 1 dX9_changes_11 rfl rfl ?_
    obtain ⟨h71, h72, h73, h74, h75, h76, h77, h78⟩ := id hR
    obtain ⟨fz, sf, sp, sc, sw, so, h79, h80, h81, h82, h83, h84, hfz, hsb0, hfd⟩ := id hS
    have hV0 := hV zz (by omega)
    have hRn : (rm zz).toInt = ((rm zz).toInt.toNat : Int) := by have := hV0.1; omega
    have hR8n : (rm zz).toInt.toNat ≤ 8 := by have := hV0.1; omega
    refine v_cVv C dX9_changes_12 lX9_171 mX9_find 68 (by omega) h68 (by decide) rfl (y_find l G n ad _ hn hW h71 h72 h73 h74 h75 h76 h77 h78 h79 h80 h81 h82 h83 h84 hfz (zz := zz) (R := (rm zz).toInt.toNat) (by omega) hRn hR8n hV0.2.1 hV0.2.2 (LLz_bd hP hV0.2.1) z hz) ⟨by decide, by decide⟩ rfl (Nat.le_of_ble_eq_true rfl) ⟨Nat.zero_le _, Nat.zero_le _⟩ (fun E4 hq5 => ?_)
    obtain ⟨hFQ, hZf⟩ := find_post (k := 5) (by omega) hW h79 h80 h81 h82 h83 h84 hfz hsb0 hfd h8T (hTT zz (by omega)) hq5
    rw [← hTT zz (by omega)] at hZf
    obtain ⟨sf1, sp1, sc1, g80, g81, g82, hZ1⟩ := id hZf
    obtain ⟨im6, hi6, hW6, hS6, hO6⟩ := id hFQ
    have hR6 := hR.go (fun j h1 h2 => hO6 j (by omega) (by omega) (by omega))
    have hTT6 : ∀ z, z < 5 → TT z = TTz ic md rf rto ron rat rbe rtd rm fv (im6 18).toInt z := fun z hz => by rw [hi6 18 (by decide)]; exact hTT z hz
    have hG6 := hFQ
    have e686 := hW6.2.2.1
    have hsc : (sc1 zz).toInt = ((TT zz).1 : Int) := hZ1.1.symm
    refine v_aload_n C 0 dX9_changes_15 rfl rfl ?_
    refine v_getr C 68 dX9_changes_16 fX9_67 (by omega) e686 rfl rfl ?_
    refine v_iload_n C 1 dX9_changes_19 rfl rfl ?_
    refine v_ald (v := sc1 zz) C 82 dX9_changes_20 (by omega) g82 (ti_in hz (by omega) (by omega)) (by rw [ti_cl hz, show Int.toNat (zz : Int) = zz by omega]) ?_
    exact v_ret C dX9_changes_21 rfl rfl ⟨Or.inr ⟨zz, by omega, hzz, hsc⟩, hG6, fun q hq1 hq2 => by rw [show q = zz by omega]; exact hZf⟩
  · rw [hk] at hp2
    refine b_if_ne C 10 dX9_changes_5 (by decide) (show (0 : Int32).toInt = 0 by decide) (fun c7 => absurd c7 (by decide)) (fun c7 => ?_)
    refine v_iconst (v := (-1)) C dX9_changes_8 (by decide) ?_
    exact v_ret C dX9_changes_9 rfl rfl ⟨Or.inl ⟨hp2, by decide⟩, FQ.refl hW hS, fun q hq1 hq2 => absurd (by omega) hp2⟩

set_option maxRecDepth 20000 in
theorem y_change (l : Launch) (G : Gl) (n : Nat) (ad : Nat → Nat) (E : Nat → va_E) (hn : 98 ≤ n) {im ic md : Nat → Int32} (hW : MCal G ad E im ic md) {rf rto ron rat rbe rtd rm fv : Nat → Int32} (hR : ZMr G E rf rto ron rat rbe rtd rm fv) {TT : Nat → TST} (hS : ZMs G E 5 TT) (hTT : ∀ z, z < 5 → TT z = TTz ic md rf rto ron rat rbe rtd rm fv (im 18).toInt z) (hV : ∀ z, z < 5 → RZv ic rf rto ron rat rbe rtd rm fv z) {k : Nat} (hk : (im 16).toInt = (k : Int)) (hk5 : k ≤ 5) (z : Int32) (i : Int32) : CtI l G yX9_change cX9_change 3 .int 5 117 (n) ad E [.ref (ad 68), .int z, .int i] (fun r E' => CGp k TT z.toInt i.toInt r.toInt ∧ FQ G ad E E' im ic md 5 TT) := by
  refine CtI.of (by decide) (Nat.le_of_ble_eq_true rfl) (fun X A C => ?_)
  refine v_sub (lv' := [(0, .ref (ad 68)), (1, .int z), (2, .int i)]) [0, 1, 2] rfl ?_
  have hP := hW.2.1
  have h68 := hW.2.2.1
  have hcy := cal_y hP
  have h8T : ∀ z, z < 5 → (TT z).1 ≤ 800 := fun z hz => by rw [hTT z hz]; exact (TTz_ok hP (hV z hz)).2
  have hokT : ∀ z, z < 5 → okT 69300000 (TT z) := fun z hz => by rw [hTT z hz]; exact (TTz_ok hP (hV z hz)).1
  refine v_aload_n C 0 dX9_change_0 rfl rfl ?_
  refine v_iload_n C 1 dX9_change_1 rfl rfl ?_
  refine v_cVp C dX9_change_2 lX9_162 mX9_isZone 68 (by omega) h68 (by decide) rfl (e_isZone l G n ad _ hn h68 z) ⟨by decide, by decide⟩ rfl (Nat.le_of_ble_eq_true rfl) ⟨Nat.zero_le _, Nat.zero_le _⟩ (fun r1 hp2 => ?_)
  rcases hp2 with ⟨rfl, hp2⟩ | ⟨rfl, hp2⟩
  · rw [hk] at hp2
    obtain ⟨zz, hz⟩ : ∃ q : Nat, z.toInt = (q : Int) := ⟨z.toInt.toNat, by omega⟩
    have hzz : zz < k := by omega
    refine b_if_eq C 38 dX9_change_5 (by decide) (show (1 : Int32).toInt = 1 by decide) (fun c3 => absurd c3 (by decide)) (fun c3 => ?_)
    refine v_iload_n C 2 dX9_change_8 rfl rfl ?_
    refine b_if_lt C 38 dX9_change_9 (by decide) (rfl : Int32.toInt i = _) (fun c4 => ?_) (fun c4 => ?_)
    · refine v_iconst (v := (-1)) C dX9_change_38 (by decide) ?_
      exact v_ret C dX9_change_39 rfl rfl ⟨Or.inr ⟨zz, by omega, hzz, Or.inr ⟨by omega, by decide⟩⟩, FQ.refl hW hS⟩
    · refine v_iload_n C 2 dX9_change_12 rfl rfl ?_
      refine v_aload_n C 0 dX9_change_13 rfl rfl ?_
      refine v_iload_n C 1 dX9_change_14 rfl rfl ?_
      refine v_cVi C dX9_change_15 lX9_175 mX9_changes 68 (by omega) h68 (by decide) rfl (y_changes l G n ad _ hn hW hR hS hTT hV hk hk5 z) ⟨by decide, by decide⟩ rfl (Nat.le_of_ble_eq_true rfl) ⟨Nat.zero_le _, Nat.zero_le _⟩ (fun r5 E6 hq7 => ?_)
      obtain ⟨hCH, hFQ, hZf⟩ := hq7
      obtain ⟨sf1, sp1, sc1, g80, g81, g82, hZ1⟩ := hZf zz (by omega) hzz
      have hrv : r5.toInt = ((TT zz).1 : Int) := CHp_one hCH (Or.inr ⟨zz, by omega, hzz, rfl⟩)
      obtain ⟨im8, hi8, hW8, hS8, hO8⟩ := id hFQ
      have hR8 := hR.go (fun j h1 h2 => hO8 j (by omega) (by omega) (by omega))
      have hTT8 : ∀ z, z < 5 → TT z = TTz ic md rf rto ron rat rbe rtd rm fv (im8 18).toInt z := fun z hz => by rw [hi8 18 (by decide)]; exact hTT z hz
      have hG8 := hFQ
      have e688 := hW8.2.2.1
      have h8z := h8T zz (by omega)
      refine b_icmp_ge C 38 dX9_change_18 (by decide) (rfl : Int32.toInt i = _) hrv (fun c9 => ?_) (fun c9 => ?_)
      · refine v_iconst (v := (-1)) C dX9_change_38 (by decide) ?_
        exact v_ret C dX9_change_39 rfl rfl ⟨Or.inr ⟨zz, by omega, hzz, Or.inr ⟨by omega, by decide⟩⟩, hG8⟩
      · refine v_aload_n C 0 dX9_change_21 rfl rfl ?_
        refine v_getr C 68 dX9_change_22 fX9_61 (by omega) e688 rfl rfl ?_
        refine v_sipush (v := 801) C dX9_change_25 (by decide) ?_
        refine v_iload_n C 1 dX9_change_28 rfl rfl ?_
        refine v_imul C dX9_change_29 ?_
        refine v_top (fun x10 ex10 => ?_)
        have hx10 : x10.toInt = (801 * (zz : Int)) := by rw [ex10]; exact ti_mul (show (801 : Int32).toInt = 801 by decide) hz (by omega) (by omega)
        refine v_iconst (v := 1) C dX9_change_30 (by decide) ?_
        refine v_iadd C dX9_change_31 ?_
        refine v_top (fun x11 ex11 => ?_)
        have hx11 : x11.toInt = ((801 * (zz : Int)) + 1) := by rw [ex11]; exact ti_add hx10 (show (1 : Int32).toInt = 1 by decide) (by omega) (by omega)
        refine v_iload_n C 2 dX9_change_32 rfl rfl ?_
        refine v_iadd C dX9_change_33 ?_
        refine v_top (fun x12 ex12 => ?_)
        have hx12 : x12.toInt = (((801 * (zz : Int)) + 1) + i.toInt) := by rw [ex12]; exact ti_add hx11 (rfl : Int32.toInt i = _) (by omega) (by omega)
        refine v_ald (v := sf1 (801 * zz + (i.toInt.toNat + 1))) C 80 dX9_change_34 (by omega) g80 (ti_in hx12 (by omega) (by omega)) (by rw [ti_cl hx12, show Int.toNat (((801 * (zz : Int)) + 1) + i.toInt) = 801 * zz + (i.toInt.toNat + 1) by omega]) ?_
        refine v_goto C 39 dX9_change_35 (by decide) ?_
        exact v_ret C dX9_change_39 rfl rfl ⟨Or.inr ⟨zz, by omega, hzz, Or.inl ⟨by omega, by omega, (hZ1.2 (i.toInt.toNat + 1) (by omega)).1⟩⟩, hG8⟩
  · rw [hk] at hp2
    refine b_if_eq C 38 dX9_change_5 (by decide) (show (0 : Int32).toInt = 0 by decide) (fun c13 => ?_) (fun c13 => absurd c13 (by decide))
    refine v_iconst (v := (-1)) C dX9_change_38 (by decide) ?_
    exact v_ret C dX9_change_39 rfl rfl ⟨Or.inl ⟨hp2, by decide⟩, FQ.refl hW hS⟩

set_option maxRecDepth 20000 in
theorem y_offset (l : Launch) (G : Gl) (n : Nat) (ad : Nat → Nat) (E : Nat → va_E) (hn : 98 ≤ n) {im ic md : Nat → Int32} (hW : MCal G ad E im ic md) {rf rto ron rat rbe rtd rm fv : Nat → Int32} (hR : ZMr G E rf rto ron rat rbe rtd rm fv) {TT : Nat → TST} (hS : ZMs G E 5 TT) (hTT : ∀ z, z < 5 → TT z = TTz ic md rf rto ron rat rbe rtd rm fv (im 18).toInt z) (hV : ∀ z, z < 5 → RZv ic rf rto ron rat rbe rtd rm fv z) {k : Nat} (hk : (im 16).toInt = (k : Int)) (hk5 : k ≤ 5) {bd : Nat → Int × Int} {E0 : Nat → va_E} (hJ : JM G ad n ic md bd PR E0 E) (z : Int32) (m : Int32) : CtI l G yX9_offset cX9_offset 3 .int 5 121 (n) ad E [.ref (ad 68), .int z, .int m] (fun r E' => OFp k TT z.toInt m.toInt r.toInt ∧ FQ G ad E E' im ic md 5 TT) := by
  refine CtI.of (by decide) (Nat.le_of_ble_eq_true rfl) (fun X A C => ?_)
  refine v_sub (lv' := [(0, .ref (ad 68)), (1, .int z), (2, .int m)]) [0, 1, 2] rfl ?_
  have hP := hW.2.1
  have h68 := hW.2.2.1
  have hcy := cal_y hP
  have h8T : ∀ z, z < 5 → (TT z).1 ≤ 800 := fun z hz => by rw [hTT z hz]; exact (TTz_ok hP (hV z hz)).2
  have hokT : ∀ z, z < 5 → okT 69300000 (TT z) := fun z hz => by rw [hTT z hz]; exact (TTz_ok hP (hV z hz)).1
  refine v_aload_n C 0 dX9_offset_0 rfl rfl ?_
  refine v_iload_n C 1 dX9_offset_1 rfl rfl ?_
  refine v_cVp C dX9_offset_2 lX9_162 mX9_isZone 68 (by omega) h68 (by decide) rfl (e_isZone l G n ad _ hn h68 z) ⟨by decide, by decide⟩ rfl (Nat.le_of_ble_eq_true rfl) ⟨Nat.zero_le _, Nat.zero_le _⟩ (fun r1 hp2 => ?_)
  rcases hp2 with ⟨rfl, hp2⟩ | ⟨rfl, hp2⟩
  · rw [hk] at hp2
    obtain ⟨zz, hz⟩ : ∃ q : Nat, z.toInt = (q : Int) := ⟨z.toInt.toNat, by omega⟩
    have hzz : zz < k := by omega
    refine b_if_eq C 24 dX9_offset_5 (by decide) (show (1 : Int32).toInt = 1 by decide) (fun c3 => absurd c3 (by decide)) (fun c3 => ?_)
    refine v_iload_n C 2 dX9_offset_8 rfl rfl ?_
    refine v_cSp C dX9_offset_9 lX9_179 mX9_isMoment (t_X9_isMoment l G ad hJ m) ⟨by decide, by decide⟩ rfl (Nat.le_of_ble_eq_true rfl) ⟨Nat.zero_le _, Nat.zero_le _⟩ (fun r4 hp5 => ?_)
    rcases hp5 with ⟨rfl, hp5⟩ | ⟨rfl, hp5⟩
    · refine b_if_eq C 24 dX9_offset_12 (by decide) (show (1 : Int32).toInt = 1 by decide) (fun c6 => absurd c6 (by decide)) (fun c6 => ?_)
      refine v_aload_n C 0 dX9_offset_15 rfl rfl ?_
      refine v_iload_n C 1 dX9_offset_16 rfl rfl ?_
      refine v_iload_n C 2 dX9_offset_17 rfl rfl ?_
      refine v_cVi C dX9_offset_18 lX9_182 mX9_offsetAt 68 (by omega) h68 (by decide) rfl (y_offsetAt l G n ad _ hn hW hR hS (k := 5) (zz := zz) (by omega) (by omega) hTT hV (T := TT zz) rfl (c := (TT zz).1) rfl z m hz) ⟨by decide, by decide⟩ rfl (Nat.le_of_ble_eq_true rfl) ⟨Nat.zero_le _, Nat.zero_le _⟩ (fun r7 E8 hq9 => ?_)
      obtain ⟨hFQ, j, hTj, hrv⟩ := hq9
      have hrb := (hokT zz (by omega)).2.2.2 j hTj.1
      obtain ⟨im10, hi10, hW10, hS10, hO10⟩ := id hFQ
      have hR10 := hR.go (fun j h1 h2 => hO10 j (by omega) (by omega) (by omega))
      have hTT10 : ∀ z, z < 5 → TT z = TTz ic md rf rto ron rat rbe rtd rm fv (im10 18).toInt z := fun z hz => by rw [hi10 18 (by decide)]; exact hTT z hz
      have hG10 := hFQ
      have e6810 := hW10.2.2.1
      refine v_goto C 27 dX9_offset_21 (by decide) ?_
      exact v_ret C dX9_offset_27 rfl rfl ⟨Or.inr ⟨zz, j, by omega, hzz, by omega, hTj, hrv⟩, hG10⟩
    · refine b_if_eq C 24 dX9_offset_12 (by decide) (show (0 : Int32).toInt = 0 by decide) (fun c11 => ?_) (fun c11 => absurd c11 (by decide))
      refine v_sipush (v := (-9999)) C dX9_offset_24 (by decide) ?_
      exact v_ret C dX9_offset_27 rfl rfl ⟨Or.inl ⟨fun q => absurd q.2 (by omega), by decide⟩, FQ.refl hW hS⟩
  · rw [hk] at hp2
    refine b_if_eq C 24 dX9_offset_5 (by decide) (show (0 : Int32).toInt = 0 by decide) (fun c12 => ?_) (fun c12 => absurd c12 (by decide))
    refine v_sipush (v := (-9999)) C dX9_offset_24 (by decide) ?_
    exact v_ret C dX9_offset_27 rfl rfl ⟨Or.inl ⟨fun q => hp2 q.1, by decide⟩, FQ.refl hW hS⟩

set_option maxRecDepth 20000 in
theorem y_wall (l : Launch) (G : Gl) (n : Nat) (ad : Nat → Nat) (E : Nat → va_E) (hn : 98 ≤ n) {im ic md : Nat → Int32} (hW : MCal G ad E im ic md) {rf rto ron rat rbe rtd rm fv : Nat → Int32} (hR : ZMr G E rf rto ron rat rbe rtd rm fv) {TT : Nat → TST} (hS : ZMs G E 5 TT) (hTT : ∀ z, z < 5 → TT z = TTz ic md rf rto ron rat rbe rtd rm fv (im 18).toInt z) (hV : ∀ z, z < 5 → RZv ic rf rto ron rat rbe rtd rm fv z) {k : Nat} (hk : (im 16).toInt = (k : Int)) (hk5 : k ≤ 5) {bd : Nat → Int × Int} {E0 : Nat → va_E} (hJ : JM G ad n ic md bd PR E0 E) (z : Int32) (m : Int32) : CtI l G yX9_wall cX9_wall 4 .int 5 121 (n) ad E [.ref (ad 68), .int z, .int m] (fun r E' => WAp ic md k TT z.toInt m.toInt r.toInt ∧ FQ G ad E E' im ic md 5 TT) := by
  refine CtI.of (by decide) (Nat.le_of_ble_eq_true rfl) (fun X A C => ?_)
  refine v_sub (lv' := [(0, .ref (ad 68)), (1, .int z), (2, .int m)]) [0, 1, 2] rfl ?_
  have hP := hW.2.1
  have h68 := hW.2.2.1
  have hcy := cal_y hP
  have h8T : ∀ z, z < 5 → (TT z).1 ≤ 800 := fun z hz => by rw [hTT z hz]; exact (TTz_ok hP (hV z hz)).2
  have hokT : ∀ z, z < 5 → okT 69300000 (TT z) := fun z hz => by rw [hTT z hz]; exact (TTz_ok hP (hV z hz)).1
  refine v_aload_n C 0 dX9_wall_0 rfl rfl ?_
  refine v_iload_n C 1 dX9_wall_1 rfl rfl ?_
  refine v_cVp C dX9_wall_2 lX9_162 mX9_isZone 68 (by omega) h68 (by decide) rfl (e_isZone l G n ad _ hn h68 z) ⟨by decide, by decide⟩ rfl (Nat.le_of_ble_eq_true rfl) ⟨Nat.zero_le _, Nat.zero_le _⟩ (fun r1 hp2 => ?_)
  rcases hp2 with ⟨rfl, hp2⟩ | ⟨rfl, hp2⟩
  · rw [hk] at hp2
    obtain ⟨zz, hz⟩ : ∃ q : Nat, z.toInt = (q : Int) := ⟨z.toInt.toNat, by omega⟩
    have hzz : zz < k := by omega
    refine b_if_eq C 15 dX9_wall_5 (by decide) (show (1 : Int32).toInt = 1 by decide) (fun c3 => absurd c3 (by decide)) (fun c3 => ?_)
    refine v_iload_n C 2 dX9_wall_8 rfl rfl ?_
    refine v_cSp C dX9_wall_9 lX9_179 mX9_isMoment (t_X9_isMoment l G ad hJ m) ⟨by decide, by decide⟩ rfl (Nat.le_of_ble_eq_true rfl) ⟨Nat.zero_le _, Nat.zero_le _⟩ (fun r4 hp5 => ?_)
    rcases hp5 with ⟨rfl, hp5⟩ | ⟨rfl, hp5⟩
    · refine b_if_ne C 17 dX9_wall_12 (by decide) (show (1 : Int32).toInt = 1 by decide) (fun c6 => ?_) (fun c6 => absurd c6 (by decide))
      refine v_iload_n C 2 dX9_wall_17 rfl rfl ?_
      refine v_aload_n C 0 dX9_wall_18 rfl rfl ?_
      refine v_iload_n C 1 dX9_wall_19 rfl rfl ?_
      refine v_iload_n C 2 dX9_wall_20 rfl rfl ?_
      refine v_cVi C dX9_wall_21 lX9_182 mX9_offsetAt 68 (by omega) h68 (by decide) rfl (y_offsetAt l G n ad _ hn hW hR hS (k := 5) (zz := zz) (by omega) (by omega) hTT hV (T := TT zz) rfl (c := (TT zz).1) rfl z m hz) ⟨by decide, by decide⟩ rfl (Nat.le_of_ble_eq_true rfl) ⟨Nat.zero_le _, Nat.zero_le _⟩ (fun r7 E8 hq9 => ?_)
      obtain ⟨hFQ, j, hTj, hrv⟩ := hq9
      have hrb := (hokT zz (by omega)).2.2.2 j hTj.1
      obtain ⟨im10, hi10, hW10, hS10, hO10⟩ := id hFQ
      have hR10 := hR.go (fun j h1 h2 => hO10 j (by omega) (by omega) (by omega))
      have hTT10 : ∀ z, z < 5 → TT z = TTz ic md rf rto ron rat rbe rtd rm fv (im10 18).toInt z := fun z hz => by rw [hi10 18 (by decide)]; exact hTT z hz
      have hG10 := hFQ
      have e6810 := hW10.2.2.1
      refine v_iadd C dX9_wall_24 ?_
      refine v_top (fun x11 ex11 => ?_)
      have hx11 : x11.toInt = (m.toInt + ((TT zz).2.2 j)) := by rw [ex11]; exact ti_add (rfl : Int32.toInt m = _) hrv (by omega) (by omega)
      refine v_istore_n (lv' := [(0, .ref (ad 68)), (1, .int z), (2, .int m), (3, .int x11)]) C [1, 2, 3, 0] dX9_wall_25 rfl (by decide) rfl ?_
      refine v_aload_n C 0 dX9_wall_26 rfl rfl ?_
      refine v_iload_n C 3 dX9_wall_27 rfl rfl ?_
      refine v_cVi C dX9_wall_28 lX9_185 mX9_isWall 68 (by omega) e6810 (by decide) rfl (y_isWall l G n ad _ hn hW10 x11) ⟨by decide, by decide⟩ rfl (Nat.le_of_ble_eq_true rfl) ⟨Nat.zero_le _, Nat.zero_le _⟩ (fun r12 E14 hp13 => ?_)
      obtain ⟨hp13, hp13m⟩ := hp13
      have hF15 := FQ.mr hS10 hp13m
      obtain ⟨im16, hi16, hW16, hS16, hO16⟩ := id hF15
      have hR16 := hR10.go (fun j h1 h2 => hO16 j (by omega) (by omega) (by omega))
      have hTT16 : ∀ z, z < 5 → TT z = TTz ic md rf rto ron rat rbe rtd rm fv (im16 18).toInt z := fun z hz => by rw [hi16 18 (by decide)]; exact hTT10 z hz
      have hG16 := FQ.trans hi10 hO10 hF15
      have e6816 := hW16.2.2.1
      rw [hx11] at hp13
      rcases hp13 with ⟨rfl, hp13⟩ | ⟨rfl, hp13⟩
      · refine b_if_eq C 38 dX9_wall_31 (by decide) (show (1 : Int32).toInt = 1 by decide) (fun c17 => absurd c17 (by decide)) (fun c17 => ?_)
        refine v_iload_n C 3 dX9_wall_34 rfl rfl ?_
        refine v_goto C 40 dX9_wall_35 (by decide) ?_
        exact v_ret C dX9_wall_40 rfl rfl ⟨Or.inr ⟨zz, j, by omega, hzz, by omega, hTj, Or.inl ⟨hp13, hx11⟩⟩, hG16⟩
      · refine b_if_eq C 38 dX9_wall_31 (by decide) (show (0 : Int32).toInt = 0 by decide) (fun c18 => ?_) (fun c18 => absurd c18 (by decide))
        refine v_bipush (v := (-6)) C dX9_wall_38 (by decide) ?_
        exact v_ret C dX9_wall_40 rfl rfl ⟨Or.inr ⟨zz, j, by omega, hzz, by omega, hTj, Or.inr ⟨hp13, by decide⟩⟩, hG16⟩
    · refine b_if_ne C 17 dX9_wall_12 (by decide) (show (0 : Int32).toInt = 0 by decide) (fun c19 => absurd c19 (by decide)) (fun c19 => ?_)
      refine v_iconst (v := (-1)) C dX9_wall_15 (by decide) ?_
      exact v_ret C dX9_wall_16 rfl rfl ⟨Or.inl ⟨fun q => absurd q.2 (by omega), by decide⟩, FQ.refl hW hS⟩
  · rw [hk] at hp2
    refine b_if_eq C 15 dX9_wall_5 (by decide) (show (0 : Int32).toInt = 0 by decide) (fun c20 => ?_) (fun c20 => absurd c20 (by decide))
    refine v_iconst (v := (-1)) C dX9_wall_15 (by decide) ?_
    exact v_ret C dX9_wall_16 rfl rfl ⟨Or.inl ⟨fun q => hp2 q.1, by decide⟩, FQ.refl hW hS⟩

set_option maxRecDepth 20000 in
theorem y_moments (l : Launch) (G : Gl) (n : Nat) (ad : Nat → Nat) (E : Nat → va_E) (hn : 98 ≤ n) {im ic md : Nat → Int32} (hW : MCal G ad E im ic md) {rf rto ron rat rbe rtd rm fv : Nat → Int32} (hR : ZMr G E rf rto ron rat rbe rtd rm fv) {TT : Nat → TST} (hS : ZMs G E 5 TT) (hTT : ∀ z, z < 5 → TT z = TTz ic md rf rto ron rat rbe rtd rm fv (im 18).toInt z) (hV : ∀ z, z < 5 → RZv ic rf rto ron rat rbe rtd rm fv z) {k : Nat} (hk : (im 16).toInt = (k : Int)) (hk5 : k ≤ 5) (z : Int32) (w : Int32) : CtI l G yX9_moments cX9_moments 3 .int 5 122 (n) ad E [.ref (ad 68), .int z, .int w] (fun r E' => MSp ic md k TT z.toInt w.toInt r.toInt ∧ FQ G ad E E' im ic md 5 TT) := by
  refine CtI.of (by decide) (Nat.le_of_ble_eq_true rfl) (fun X A C => ?_)
  refine v_sub (lv' := [(0, .ref (ad 68)), (1, .int z), (2, .int w)]) [0, 1, 2] rfl ?_
  have hP := hW.2.1
  have h68 := hW.2.2.1
  have hcy := cal_y hP
  have h8T : ∀ z, z < 5 → (TT z).1 ≤ 800 := fun z hz => by rw [hTT z hz]; exact (TTz_ok hP (hV z hz)).2
  have hokT : ∀ z, z < 5 → okT 69300000 (TT z) := fun z hz => by rw [hTT z hz]; exact (TTz_ok hP (hV z hz)).1
  refine v_aload_n C 0 dX9_moments_0 rfl rfl ?_
  refine v_iload_n C 1 dX9_moments_1 rfl rfl ?_
  refine v_cVp C dX9_moments_2 lX9_162 mX9_isZone 68 (by omega) h68 (by decide) rfl (e_isZone l G n ad _ hn h68 z) ⟨by decide, by decide⟩ rfl (Nat.le_of_ble_eq_true rfl) ⟨Nat.zero_le _, Nat.zero_le _⟩ (fun r1 hp2 => ?_)
  rcases hp2 with ⟨rfl, hp2⟩ | ⟨rfl, hp2⟩
  · rw [hk] at hp2
    obtain ⟨zz, hz⟩ : ∃ q : Nat, z.toInt = (q : Int) := ⟨z.toInt.toNat, by omega⟩
    have hzz : zz < k := by omega
    refine b_if_eq C 26 dX9_moments_5 (by decide) (show (1 : Int32).toInt = 1 by decide) (fun c3 => absurd c3 (by decide)) (fun c3 => ?_)
    refine v_aload_n C 0 dX9_moments_8 rfl rfl ?_
    refine v_iload_n C 2 dX9_moments_9 rfl rfl ?_
    refine v_cVi C dX9_moments_10 lX9_185 mX9_isWall 68 (by omega) h68 (by decide) rfl (y_isWall l G n ad _ hn hW w) ⟨by decide, by decide⟩ rfl (Nat.le_of_ble_eq_true rfl) ⟨Nat.zero_le _, Nat.zero_le _⟩ (fun r4 E6 hp5 => ?_)
    obtain ⟨hp5, hp5m⟩ := hp5
    have hF7 := FQ.mr hS hp5m
    obtain ⟨im8, hi8, hW8, hS8, hO8⟩ := id hF7
    have hR8 := hR.go (fun j h1 h2 => hO8 j (by omega) (by omega) (by omega))
    have hTT8 : ∀ z, z < 5 → TT z = TTz ic md rf rto ron rat rbe rtd rm fv (im8 18).toInt z := fun z hz => by rw [hi8 18 (by decide)]; exact hTT z hz
    have hG8 := hF7
    have e688 := hW8.2.2.1
    rcases hp5 with ⟨rfl, hp5⟩ | ⟨rfl, hp5⟩
    · refine b_if_eq C 26 dX9_moments_13 (by decide) (show (1 : Int32).toInt = 1 by decide) (fun c9 => absurd c9 (by decide)) (fun c9 => ?_)
      refine v_aload_n C 0 dX9_moments_16 rfl rfl ?_
      refine v_iload_n C 1 dX9_moments_17 rfl rfl ?_
      refine v_iload_n C 2 dX9_moments_18 rfl rfl ?_
      refine v_iconst (v := (-1)) C dX9_moments_19 (by decide) ?_
      refine v_cVi C dX9_moments_20 lX9_191 mX9_momentOf 68 (by omega) e688 (by decide) rfl (y_momentOf l G n ad _ hn hW8 hR8 hS8 (k := 5) (zz := zz) (by omega) (by omega) hTT8 hV (T := TT zz) rfl (c := (TT zz).1) rfl z w (-1) hz (by have := hp5; unfold okW at this; omega)) ⟨by decide, by decide⟩ rfl (Nat.le_of_ble_eq_true rfl) ⟨Nat.zero_le _, Nat.zero_le _⟩ (fun r10 E11 hq12 => ?_)
      obtain ⟨hFQ, hcn, hMo⟩ := hq12
      obtain ⟨im13, hi13, hW13, hS13, hO13⟩ := id hFQ
      have hR13 := hR8.go (fun j h1 h2 => hO13 j (by omega) (by omega) (by omega))
      have hTT13 : ∀ z, z < 5 → TT z = TTz ic md rf rto ron rat rbe rtd rm fv (im13 18).toInt z := fun z hz => by rw [hi13 18 (by decide)]; exact hTT8 z hz
      have hG13 := FQ.trans hi8 hO8 hFQ
      have e6813 := hW13.2.2.1
      refine v_goto C 27 dX9_moments_23 (by decide) ?_
      exact v_ret C dX9_moments_27 rfl rfl ⟨Or.inr ⟨zz, by omega, hzz, hp5, hcn (by decide)⟩, hG13⟩
    · refine b_if_eq C 26 dX9_moments_13 (by decide) (show (0 : Int32).toInt = 0 by decide) (fun c14 => ?_) (fun c14 => absurd c14 (by decide))
      refine v_iconst (v := (-1)) C dX9_moments_26 (by decide) ?_
      exact v_ret C dX9_moments_27 rfl rfl ⟨Or.inl ⟨fun q => hp5 q.2, by decide⟩, hG8⟩
  · rw [hk] at hp2
    refine b_if_eq C 26 dX9_moments_5 (by decide) (show (0 : Int32).toInt = 0 by decide) (fun c15 => ?_) (fun c15 => absurd c15 (by decide))
    refine v_iconst (v := (-1)) C dX9_moments_26 (by decide) ?_
    exact v_ret C dX9_moments_27 rfl rfl ⟨Or.inl ⟨fun q => hp2 q.1, by decide⟩, FQ.refl hW hS⟩

set_option maxRecDepth 20000 in
theorem y_moment (l : Launch) (G : Gl) (n : Nat) (ad : Nat → Nat) (E : Nat → va_E) (hn : 98 ≤ n) {im ic md : Nat → Int32} (hW : MCal G ad E im ic md) {rf rto ron rat rbe rtd rm fv : Nat → Int32} (hR : ZMr G E rf rto ron rat rbe rtd rm fv) {TT : Nat → TST} (hS : ZMs G E 5 TT) (hTT : ∀ z, z < 5 → TT z = TTz ic md rf rto ron rat rbe rtd rm fv (im 18).toInt z) (hV : ∀ z, z < 5 → RZv ic rf rto ron rat rbe rtd rm fv z) {k : Nat} (hk : (im 16).toInt = (k : Int)) (hk5 : k ≤ 5) (z : Int32) (w : Int32) (i : Int32) : CtI l G yX9_moment cX9_moment 5 .int 5 122 (n) ad E [.ref (ad 68), .int z, .int w, .int i] (fun r E' => MTp ic md k TT z.toInt w.toInt i.toInt r.toInt ∧ FQ G ad E E' im ic md 5 TT) := by
  refine CtI.of (by decide) (Nat.le_of_ble_eq_true rfl) (fun X A C => ?_)
  refine v_sub (lv' := [(0, .ref (ad 68)), (1, .int z), (2, .int w), (3, .int i)]) [0, 1, 2, 3] rfl ?_
  have hP := hW.2.1
  have h68 := hW.2.2.1
  have hcy := cal_y hP
  have h8T : ∀ z, z < 5 → (TT z).1 ≤ 800 := fun z hz => by rw [hTT z hz]; exact (TTz_ok hP (hV z hz)).2
  have hokT : ∀ z, z < 5 → okT 69300000 (TT z) := fun z hz => by rw [hTT z hz]; exact (TTz_ok hP (hV z hz)).1
  refine v_aload_n C 0 dX9_moment_0 rfl rfl ?_
  refine v_iload_n C 1 dX9_moment_1 rfl rfl ?_
  refine v_cVp C dX9_moment_2 lX9_162 mX9_isZone 68 (by omega) h68 (by decide) rfl (e_isZone l G n ad _ hn h68 z) ⟨by decide, by decide⟩ rfl (Nat.le_of_ble_eq_true rfl) ⟨Nat.zero_le _, Nat.zero_le _⟩ (fun r1 hp2 => ?_)
  rcases hp2 with ⟨rfl, hp2⟩ | ⟨rfl, hp2⟩
  · rw [hk] at hp2
    obtain ⟨zz, hz⟩ : ∃ q : Nat, z.toInt = (q : Int) := ⟨z.toInt.toNat, by omega⟩
    have hzz : zz < k := by omega
    refine b_if_eq C 16 dX9_moment_5 (by decide) (show (1 : Int32).toInt = 1 by decide) (fun c3 => absurd c3 (by decide)) (fun c3 => ?_)
    refine v_aload_n C 0 dX9_moment_8 rfl rfl ?_
    refine v_iload_n C 2 dX9_moment_9 rfl rfl ?_
    refine v_cVi C dX9_moment_10 lX9_185 mX9_isWall 68 (by omega) h68 (by decide) rfl (y_isWall l G n ad _ hn hW w) ⟨by decide, by decide⟩ rfl (Nat.le_of_ble_eq_true rfl) ⟨Nat.zero_le _, Nat.zero_le _⟩ (fun r4 E6 hp5 => ?_)
    obtain ⟨hp5, hp5m⟩ := hp5
    have hF7 := FQ.mr hS hp5m
    obtain ⟨im8, hi8, hW8, hS8, hO8⟩ := id hF7
    have hR8 := hR.go (fun j h1 h2 => hO8 j (by omega) (by omega) (by omega))
    have hTT8 : ∀ z, z < 5 → TT z = TTz ic md rf rto ron rat rbe rtd rm fv (im8 18).toInt z := fun z hz => by rw [hi8 18 (by decide)]; exact hTT z hz
    have hG8 := hF7
    have e688 := hW8.2.2.1
    rcases hp5 with ⟨rfl, hp5⟩ | ⟨rfl, hp5⟩
    · refine b_if_ne C 18 dX9_moment_13 (by decide) (show (1 : Int32).toInt = 1 by decide) (fun c9 => ?_) (fun c9 => absurd c9 (by decide))
      refine v_iload_n C 3 dX9_moment_18 rfl rfl ?_
      refine b_if_ge C 26 dX9_moment_19 (by decide) (rfl : Int32.toInt i = _) (fun c10 => ?_) (fun c10 => ?_)
      · refine v_aload_n C 0 dX9_moment_26 rfl rfl ?_
        refine v_iload_n C 1 dX9_moment_27 rfl rfl ?_
        refine v_iload_n C 2 dX9_moment_28 rfl rfl ?_
        refine v_iload_n C 3 dX9_moment_29 rfl rfl ?_
        refine v_cVi C dX9_moment_30 lX9_191 mX9_momentOf 68 (by omega) e688 (by decide) rfl (y_momentOf l G n ad _ hn hW8 hR8 hS8 (k := 5) (zz := zz) (by omega) (by omega) hTT8 hV (T := TT zz) rfl (c := (TT zz).1) rfl z w i hz (by have := hp5; unfold okW at this; omega)) ⟨by decide, by decide⟩ rfl (Nat.le_of_ble_eq_true rfl) ⟨Nat.zero_le _, Nat.zero_le _⟩ (fun r11 E12 hq13 => ?_)
        obtain ⟨hFQ, hcn, hMo⟩ := hq13
        obtain ⟨im14, hi14, hW14, hS14, hO14⟩ := id hFQ
        have hR14 := hR8.go (fun j h1 h2 => hO14 j (by omega) (by omega) (by omega))
        have hTT14 : ∀ z, z < 5 → TT z = TTz ic md rf rto ron rat rbe rtd rm fv (im14 18).toInt z := fun z hz => by rw [hi14 18 (by decide)]; exact hTT8 z hz
        have hG14 := FQ.trans hi8 hO8 hFQ
        have e6814 := hW14.2.2.1
        refine v_istore (lv' := [(0, .ref (ad 68)), (1, .int z), (2, .int w), (3, .int i), (4, .int r11)]) C [1, 2, 3, 4, 0] dX9_moment_33 (by decide) rfl ?_
        refine v_iload C 4 dX9_moment_35 rfl ?_
        refine b_if_ge C 45 dX9_moment_37 (by decide) (rfl : Int32.toInt r11 = _) (fun c15 => ?_) (fun c15 => ?_)
        · refine v_iload C 4 dX9_moment_45 rfl ?_
          exact v_ret C dX9_moment_47 rfl rfl ⟨Or.inr ⟨zz, _, by omega, hzz, hp5, hMo (by omega), by rw [if_neg (by omega)]⟩, hG14⟩
        · refine v_bipush (v := (-6)) C dX9_moment_40 (by decide) ?_
          refine v_goto C 47 dX9_moment_42 (by decide) ?_
          exact v_ret C dX9_moment_47 rfl rfl ⟨Or.inr ⟨zz, _, by omega, hzz, hp5, hMo (by omega), by rw [if_pos (by have := MoT_sign (hokT zz (by omega)) (hMo (by omega)); omega)]; decide⟩, hG14⟩
      · refine v_iconst (v := (-1)) C dX9_moment_22 (by decide) ?_
        refine v_goto C 33 dX9_moment_23 (by decide) ?_
        refine v_istore (lv' := [(0, .ref (ad 68)), (1, .int z), (2, .int w), (3, .int i), (4, .int (-1))]) C [1, 2, 3, 4, 0] dX9_moment_33 (by decide) rfl ?_
        refine v_iload C 4 dX9_moment_35 rfl ?_
        refine b_if_ge C 45 dX9_moment_37 (by decide) (show ((-1) : Int32).toInt = (-1) by decide) (fun c16 => absurd c16 (by decide)) (fun c16 => ?_)
        refine v_bipush (v := (-6)) C dX9_moment_40 (by decide) ?_
        refine v_goto C 47 dX9_moment_42 (by decide) ?_
        exact v_ret C dX9_moment_47 rfl rfl ⟨Or.inr ⟨zz, -1, by omega, hzz, hp5, Or.inr ⟨by omega, rfl⟩, by rw [if_pos rfl]; decide⟩, hG8⟩
    · refine b_if_ne C 18 dX9_moment_13 (by decide) (show (0 : Int32).toInt = 0 by decide) (fun c17 => absurd c17 (by decide)) (fun c17 => ?_)
      refine v_iconst (v := (-1)) C dX9_moment_16 (by decide) ?_
      exact v_ret C dX9_moment_17 rfl rfl ⟨Or.inl ⟨fun q => hp5 q.2, by decide⟩, hG8⟩
  · rw [hk] at hp2
    refine b_if_eq C 16 dX9_moment_5 (by decide) (show (0 : Int32).toInt = 0 by decide) (fun c18 => ?_) (fun c18 => absurd c18 (by decide))
    refine v_iconst (v := (-1)) C dX9_moment_16 (by decide) ?_
    exact v_ret C dX9_moment_17 rfl rfl ⟨Or.inl ⟨fun q => hp2 q.1, by decide⟩, FQ.refl hW hS⟩

