/-! ===== the class with what holds of its zones ===== -/
def ZCg (Z : (Nat → va_E) → Prop) : Prop := ∀ E E1 : Nat → va_E, Z E → (∀ j, 98 ≤ j → E1 j = E j) → Z E1
def ZRf (l : Launch) (G : Gl) (ad : Nat → Nat) (k : Nat) (Z : (Nat → va_E) → Prop) (Y : Nat → Int32 → (Nat → va_E) → Prop) : Prop := ∀ (E0 E : Nat → va_E) (b : Nat) (x : Int32), ZC k b → J8 G ad k E0 E → Z E → CtV l G yX6_refresh cX6_refresh 4 2 50 (98 + 9 * k) ad E [.ref (ad b), .int x] (fun E' => J8 G ad k E0 E' ∧ Z E' ∧ Y b x E')
def JZ (l : Launch) (G : Gl) (ad : Nat → Nat) (k : Nat) (Z : (Nat → va_E) → Prop) (Y : Nat → Int32 → (Nat → va_E) → Prop) (E0 E : Nat → va_E) : Prop := J8 G ad k E0 E ∧ Z E ∧ ZCg Z ∧ ZRf l G ad k Z Y
theorem CtV.mono {l : Launch} {G : Gl} {y : MethodName} {cc : ByteArray} {maxL : Nat} {fr lo : Nat} {n : Nat} {ad : Nat → Nat} {E : Nat → va_E} {av : List Value} {post post' : (Nat → va_E) → Prop} (h : CtV l G y cc maxL fr lo n ad E av post) (hp : ∀ E', post E' → post' E') : CtV l G y cc maxL fr lo n ad E av post' :=
  fun sz => MetFree.mono (h sz) (fun _ _ h => h) (fun _ _ _ _ _ h => h) (fun _ _ _ _ _ hQ => by
    obtain ⟨⟨⟨u, e, hq, hB⟩, hF⟩, hL⟩ := hQ
    exact ⟨⟨⟨u, e, hp u hq, hB⟩, hF⟩, hL⟩)
section JZR
variable {l : Launch} {G : Gl} {ad : Nat → Nat} {k : Nat} {Z : (Nat → va_E) → Prop} {Y : Nat → Int32 → (Nat → va_E) → Prop} {E0 E E1 : Nat → va_E}
theorem JZ.c0 (h : JZ l G ad k Z Y E0 E) : ∃ io : Nat → Int32, E 0 = ob 8 (rfs ad [1, 6, 8, 48, 45, 51]) io := h.1.c0
theorem JZ.cal (h : JZ l G ad k Z Y E0 E) : ∃ ic md ms ld ys : Nat → Int32, E 1 = ob 0 (rfs ad [2, 3, 4, 5]) ic ∧ E 2 = aI G 12 md ∧ E 3 = aI G 12 ms ∧ E 4 = aI G 100 ld ∧ E 5 = aI G 101 ys ∧ CalP ic md ∧ CalF ic md ms ld ys := h.1.cal
theorem JZ.c7 (h : JZ l G ad k Z Y E0 E) : ∃ fz : Nat → Option Nat, E 7 = aQ G 3 5 fz ∧ ∀ i, i < k → fz i = some (ad (98 + 9 * i)) := h.1.c7
theorem JZ.c8 (h : JZ l G ad k Z Y E0 E) : ∃ fp : Nat → Option Nat, E 8 = aQ G 4 6 fp ∧ ∀ i, i < 6 → fp i = some (ad (9 + 6 * i)) := h.1.c8
theorem JZ.with (h : JZ l G ad k Z Y E0 E) (h1 : JJ G ad (98 + 9 * k) (Ty8 k) P8 E0 E1) (o : ∀ j, 98 ≤ j → E1 j = E j) : JZ l G ad k Z Y E0 E1 := ⟨h.1.with h1, h.2.2.1 E E1 h.2.1 o, h.2.2⟩
theorem JZ.pg (h : JZ l G ad k Z Y E0 E) {c : Nat} (hc : PC c) : ∃ sz : Int32, PgW G ad c E sz ∧ 0 ≤ sz.toInt ∧ sz.toInt ≤ 10 := h.1.pg hc
theorem JZ.setP (h : JZ l G ad k Z Y E0 E) {c : Nat} (hc : c = 52 ∨ c = 58) {sz : Int32} (hW : PgW G ad c E1 sz) (h1 : 0 ≤ sz.toInt) (h2 : sz.toInt ≤ 10) (hF : Fr6 c E E1) : JZ l G ad k Z Y E0 E1 := ⟨h.1.setP hc hW h1 h2 hF, h.2.2.1 E E1 h.2.1 (fun j hj => hF j (by omega)), h.2.2⟩
theorem tz_X6_refresh (l : Launch) (G : Gl) (ad : Nat → Nat) {k : Nat} {Z : (Nat → va_E) → Prop} {Y : Nat → Int32 → (Nat → va_E) → Prop} {E0 E : Nat → va_E} (hJ : JZ l G ad k Z Y E0 E) (b : Nat) (hb : ZC k b) (x : Int32) : CtV l G yX6_refresh cX6_refresh 4 2 50 (98 + 9 * k) ad E [.ref (ad b), .int x] (fun E' => JZ l G ad k Z Y E0 E') := (hJ.2.2.2 E0 E b x hb hJ.1 hJ.2.1).mono (fun _ hp => ⟨hp.1, hp.2.1, hJ.2.2⟩)
theorem ty_X6_refresh (l : Launch) (G : Gl) (ad : Nat → Nat) {k : Nat} {Z : (Nat → va_E) → Prop} {Y : Nat → Int32 → (Nat → va_E) → Prop} {E0 E : Nat → va_E} (hJ : JZ l G ad k Z Y E0 E) (b : Nat) (hb : ZC k b) (x : Int32) : CtV l G yX6_refresh cX6_refresh 4 2 50 (98 + 9 * k) ad E [.ref (ad b), .int x] (fun E' => JZ l G ad k Z Y E0 E' ∧ Y b x E') := (hJ.2.2.2 E0 E b x hb hJ.1 hJ.2.1).mono (fun _ hp => ⟨⟨hp.1, hp.2.1, hJ.2.2⟩, hp.2.2⟩)
end JZR

set_option maxRecDepth 20000 in
theorem tz_X7_refresh (l : Launch) (G : Gl) (ad : Nat → Nat) {k : Nat} {Z : (Nat → va_E) → Prop} {Y : Nat → Int32 → (Nat → va_E) → Prop} {E0 E : Nat → va_E} (hJ : JZ l G ad k Z Y E0 E) (x : Int32) : CtV l G yX7_refresh cX7_refresh 4 3 73 (98 + 9 * k) ad E [.ref (ad 6), .int x] (fun E' => JZ l G ad k Z Y E0 E') := by
  refine CtV.of (by decide) (Nat.le_of_ble_eq_true rfl) (fun X A C => ?_)
  refine v_sub (lv' := [(0, .ref (ad 6)), (1, .int x)]) [0, 1] rfl ?_
  have hk5 := hJ.1.1
  refine v_iconst (v := 0) C dX7_refresh_0 (by decide) ?_
  refine v_istore_n (lv' := [(0, .ref (ad 6)), (1, .int x), (2, .int 0)]) C [1, 2, 0] dX7_refresh_1 rfl (by decide) rfl ?_
  have LP1 : ∀ (t : Nat) (E5 : Nat → va_E) (y2 : Int32) (y3 : Int32), JZ l G ad k Z Y E0 E5 → ((0 : Int) ≤ y3.toInt ∧ y3.toInt ≤ 5) → (y3.toInt ≤ (k : Int)) → 6 - y3.toInt < (t : Int) → V X G A 4 (QV X G A (98 + 9 * k) ad (fun E' => JZ l G ad k Z Y E0 E')) (98 + 9 * k) ad 0 0 E5 2 [(0, .ref (ad 6)), (1, .int y2), (2, .int y3)] [] := by
    intro t9
    induction t9 with
    | zero => intro E5 y2 y3 hJ6 hy3 hq4 hm8; exfalso; omega
    | succ t9 ih7 =>
      intro E5 y2 y3 hJ6 hy3 hq4 hm8
      refine v_iload_n C 2 dX7_refresh_2 rfl rfl ?_
      refine v_aload_n C 0 dX7_refresh_3 rfl rfl ?_
      obtain ⟨i10, hE10, hb10⟩ := hJ6.1.2.2.getO (b := 6) (by omega) rfl
      refine v_geti (v := i10 1) C 6 dX7_refresh_4 fX7_17 (by omega) hE10 rfl rfl ?_
      have hi10_1 : (k : Int) ≤ (i10 1).toInt ∧ (i10 1).toInt ≤ (k : Int) := hb10 1
      refine b_icmp_ge C 32 dX7_refresh_7 (by decide) (rfl : Int32.toInt y3 = _) (rfl : Int32.toInt (i10 1) = _) (fun c11 => ?_) (fun c11 => ?_)
      · exact v_vret C dX7_refresh_32 rfl hJ6
      · refine v_aload_n C 0 dX7_refresh_10 rfl rfl ?_
        refine v_getr C 6 dX7_refresh_11 fX7_11 (by omega) hE10 rfl rfl ?_
        refine v_iload_n C 2 dX7_refresh_14 rfl rfl ?_
        obtain ⟨fz12, hE12, hz12⟩ := hJ6.c7
        obtain ⟨b13, eb13⟩ : ∃ q : Nat, q = 98 + 9 * ((y3.toInt).toNat) := ⟨_, rfl⟩
        have hb13 : ZC k b13 := ⟨_, by omega, eb13⟩
        have hb13n := hb13.n
        refine v_aldZ (v := some (ad b13)) C 7 dX7_refresh_15 (by omega) hE12 (ti_in (rfl : Int32.toInt y3 = _) (by omega) (by omega)) (by rw [ti_cl (rfl : Int32.toInt y3 = _), eb13]; exact hz12 ((y3.toInt).toNat) (by omega)) ?_
        refine v_astore_n (lv' := [(0, .ref (ad 6)), (1, .int y2), (2, .int y3), (3, .ref (ad b13))]) C [1, 2, 3, 0] dX7_refresh_16 rfl (by decide) rfl ?_
        refine v_aload_n C 3 dX7_refresh_17 rfl rfl ?_
        refine v_ifnull C dX7_refresh_18 ?_
        refine v_aload_n C 3 dX7_refresh_21 rfl rfl ?_
        refine v_iload_n C 1 dX7_refresh_22 rfl rfl ?_
        obtain ⟨i18, hE18, hb18⟩ := hJ6.1.2.2.getO (b := b13) (by omega) hb13.t0
        refine v_cVv C dX7_refresh_23 lX7_24 mX6_refresh b13 (by omega) hE18 (by decide) rfl (tz_X6_refresh l G ad hJ6 b13 hb13 y2) ⟨by decide, by decide⟩ rfl (Nat.le_of_ble_eq_true rfl) ⟨Nat.zero_le _, Nat.zero_le _⟩ (fun E15 hJ17 => ?_)
        obtain ⟨x19, ex19⟩ : ∃ y : Int32, y = y3 + 1 := ⟨_, rfl⟩
        have hx19 : x19.toInt = (y3.toInt + 1) := by rw [ex19]; exact ti_add (rfl : Int32.toInt y3 = _) (show (1 : Int32).toInt = 1 by decide) (by omega) (by omega)
        refine v_iinc (v := x19) (lv' := [(0, .ref (ad 6)), (1, .int y2), (2, .int x19), (3, .ref (ad b13))]) C 2 [1, 2, 0, 3] dX7_refresh_26 rfl (ex19.symm) (by decide) rfl ?_
        refine v_goto C 2 dX7_refresh_29 (by decide) ?_
        refine v_sub (lv' := [(0, .ref (ad 6)), (1, .int y2), (2, .int x19)]) [0, 1, 2] rfl ?_
        exact ih7 _ y2 x19 hJ17 (by have := ti_any y2; have := hx19; omega) (by have := ti_any y2; have := hx19; omega) (by have := ti_any y2; have := hx19; omega)
  exact LP1 100000 _ x 0 hJ (by have := ti_any x; have := (show (0 : Int32).toInt = 0 by decide); omega) (by have := ti_any x; have := (show (0 : Int32).toInt = 0 by decide); omega) (by have := ti_any x; have := (show (0 : Int32).toInt = 0 by decide); omega)

set_option maxRecDepth 20000 in
theorem tz_X4_forget (l : Launch) (G : Gl) (ad : Nat → Nat) {k : Nat} {Z : (Nat → va_E) → Prop} {Y : Nat → Int32 → (Nat → va_E) → Prop} {E0 E : Nat → va_E} (hJ : JZ l G ad k Z Y E0 E) : CtV l G yX4_forget cX4_forget 1 0 0 (98 + 9 * k) ad E [.ref (ad 45)] (fun E' => JZ l G ad k Z Y E0 E') := by
  refine CtV.of (by decide) (Nat.le_of_ble_eq_true rfl) (fun X A C => ?_)
  refine v_sub (lv' := [(0, .ref (ad 45))]) [0] rfl ?_
  have hk5 := hJ.1.1
  refine v_aload_n C 0 dX4_forget_0 rfl rfl ?_
  refine v_iconst (v := 0) C dX4_forget_1 (by decide) ?_
  obtain ⟨i1, hE1, hb1⟩ := hJ.1.2.2.getO (b := 45) (by omega) rfl
  refine v_puti C 45 dX4_forget_2 fX4_19 (by omega) hE1 rfl rfl rfl rfl (fun E2 hE2_45 oE2 => ?_)
  obtain ⟨hJ3, hb4⟩ := hJ.1.2.2.setO rfl (by unfold P8; omega) hb1 (k := 5) (show (0 : Int) ≤ Int32.toInt 0 ∧ Int32.toInt 0 ≤ 1 by decide) hE2_45 oE2
  have hJ3 := hJ.with hJ3 (fun j hj => oE2 j (by omega))
  exact v_vret C dX4_forget_5 rfl hJ3

set_option maxRecDepth 20000 in
theorem tz_X4_mark (l : Launch) (G : Gl) (ad : Nat → Nat) {k : Nat} {Z : (Nat → va_E) → Prop} {Y : Nat → Int32 → (Nat → va_E) → Prop} {E0 E : Nat → va_E} (hJ : JZ l G ad k Z Y E0 E) (x : Int32) : CtV l G yX4_mark cX4_mark 3 0 0 (98 + 9 * k) ad E [.ref (ad 45), .int x] (fun E' => JZ l G ad k Z Y E0 E') := by
  refine CtV.of (by decide) (Nat.le_of_ble_eq_true rfl) (fun X A C => ?_)
  refine v_sub (lv' := [(0, .ref (ad 45)), (1, .int x)]) [0, 1] rfl ?_
  have hk5 := hJ.1.1
  refine v_iload_n C 1 dX4_mark_0 rfl rfl ?_
  refine v_aload_n C 0 dX4_mark_1 rfl rfl ?_
  obtain ⟨i1, hE1, hb1⟩ := hJ.1.2.2.getO (b := 45) (by omega) rfl
  refine v_geti (v := i1 3) C 45 dX4_mark_2 fX4_23 (by omega) hE1 rfl rfl ?_
  refine v_isub C dX4_mark_5 ?_
  refine v_top (fun x2 _ => ?_)
  refine v_istore_n (lv' := [(0, .ref (ad 45)), (1, .int x), (2, .int x2)]) C [1, 2, 0] dX4_mark_6 rfl (by decide) rfl ?_
  refine v_iload_n C 2 dX4_mark_7 rfl rfl ?_
  refine b_if_lt C 49 dX4_mark_8 (by decide) (rfl : Int32.toInt x2 = _) (fun c3 => ?_) (fun c3 => ?_)
  · exact v_vret C dX4_mark_49 rfl hJ
  · refine v_iload_n C 1 dX4_mark_11 rfl rfl ?_
    refine v_aload_n C 0 dX4_mark_12 rfl rfl ?_
    refine v_geti (v := i1 4) C 45 dX4_mark_13 fX4_27 (by omega) hE1 rfl rfl ?_
    refine b_icmp_gt C 49 dX4_mark_16 (by decide) (rfl : Int32.toInt x = _) (rfl : Int32.toInt (i1 4) = _) (fun c4 => ?_) (fun c4 => ?_)
    · exact v_vret C dX4_mark_49 rfl hJ
    · refine v_iload_n C 2 dX4_mark_19 rfl rfl ?_
      refine v_bipush (v := 64) C dX4_mark_20 (by decide) ?_
      refine v_idiv C dX4_mark_22 (by decide) ?_
      have := ti_any x2
      refine v_top (fun x5 ex5 => ?_)
      have hx5 : x5.toInt = (x2.toInt / 64) := by rw [ex5]; exact ti_div (rfl : Int32.toInt x2 = _) (show (64 : Int32).toInt = 64 by decide) (by omega) (by omega)
      refine v_aload_n C 0 dX4_mark_23 rfl rfl ?_
      refine v_getr C 45 dX4_mark_24 fX4_9 (by omega) hE1 rfl rfl ?_
      obtain ⟨f6, hE6⟩ := hJ.1.2.2.getL (b := 46) (by omega) rfl
      refine v_alenJ (v := 31251) C 46 dX4_mark_27 (by omega) hE6 (by decide) ?_
      refine b_icmp_ge C 49 dX4_mark_28 (by decide) hx5 (show (31251 : Int32).toInt = 31251 by decide) (fun c7 => ?_) (fun c7 => ?_)
      · exact v_vret C dX4_mark_49 rfl hJ
      · refine v_aload_n C 0 dX4_mark_31 rfl rfl ?_
        refine v_getr C 45 dX4_mark_32 fX4_9 (by omega) hE1 rfl rfl ?_
        refine v_iload_n C 2 dX4_mark_35 rfl rfl ?_
        refine v_bipush (v := 64) C dX4_mark_36 (by decide) ?_
        refine v_idiv C dX4_mark_38 (by decide) ?_
        have := ti_any x2
        refine v_top (fun x8 ex8 => ?_)
        have hx8 : x8.toInt = (x2.toInt / 64) := by rw [ex8]; exact ti_div (rfl : Int32.toInt x2 = _) (show (64 : Int32).toInt = 64 by decide) (by omega) (by omega)
        refine v_dup2_11 C dX4_mark_39 rfl rfl ?_
        refine v_jald (v := f6 ((x2.toInt / 64)).toNat) C 46 dX4_mark_40 (by omega) hE6 (ti_in hx8 (by omega) (by omega)) (by rw [ti_cl hx8]) ?_
        refine v_topl (fun x9 _ => ?_)
        refine v_lconst (v := 1) C dX4_mark_41 (by decide) ?_
        refine v_iload_n C 2 dX4_mark_42 rfl rfl ?_
        refine v_bipush (v := 64) C dX4_mark_43 (by decide) ?_
        refine v_irem C dX4_mark_45 (by decide) ?_
        have := ti_any x2
        refine v_top (fun x10 ex10 => ?_)
        have hx10 : x10.toInt = (x2.toInt % 64) := by rw [ex10]; exact ti_rem (rfl : Int32.toInt x2 = _) (show (64 : Int32).toInt = 64 by decide) (by omega) (by omega)
        refine v_lshl C dX4_mark_46 rfl ?_
        refine v_topl (fun x11 _ => ?_)
        refine v_lor C dX4_mark_47 ?_
        refine v_topl (fun x12 _ => ?_)
        refine v_jast C 46 dX4_mark_48 (by omega) hE6 (ti_in hx8 (by omega) (by omega)) (fun E13 hE13_46 oE13 => ?_)
        rw [ti_cl hx8] at hE13_46
        have hE13_45 := (oE13 45 (by decide)).trans hE1
        have hJ14 := hJ.with (hJ.1.2.2.setL rfl (by unfold P8; omega) hE13_46 oE13) (fun j hj => oE13 j (by omega))
        exact v_vret C dX4_mark_49 rfl hJ14

set_option maxRecDepth 20000 in
theorem tz_X4_listMarks (l : Launch) (G : Gl) (ad : Nat → Nat) {k : Nat} {Z : (Nat → va_E) → Prop} {Y : Nat → Int32 → (Nat → va_E) → Prop} {E0 E : Nat → va_E} (hJ : JZ l G ad k Z Y E0 E) (x : Int32) (hx : (-2147483648 : Int) ≤ x.toInt ∧ x.toInt ≤ 31251) : CtV l G yX4_listMarks cX4_listMarks 8 1 21 (98 + 9 * k) ad E [.ref (ad 45), .int x] (fun E' => JZ l G ad k Z Y E0 E') := by
  refine CtV.of (by decide) (Nat.le_of_ble_eq_true rfl) (fun X A C => ?_)
  refine v_sub (lv' := [(0, .ref (ad 45)), (1, .int x)]) [0, 1] rfl ?_
  have hk5 := hJ.1.1
  refine v_aload_n C 0 dX4_listMarks_0 rfl rfl ?_
  refine v_iconst (v := 0) C dX4_listMarks_1 (by decide) ?_
  obtain ⟨i1, hE1, hb1⟩ := hJ.1.2.2.getO (b := 45) (by omega) rfl
  refine v_puti C 45 dX4_listMarks_2 fX4_78 (by omega) hE1 rfl rfl rfl rfl (fun E2 hE2_45 oE2 => ?_)
  obtain ⟨hJ3, hb4⟩ := hJ.1.2.2.setO rfl (by unfold P8; omega) hb1 (k := 2) (show (0 : Int) ≤ Int32.toInt 0 ∧ Int32.toInt 0 ≤ 26002 by decide) hE2_45 oE2
  have hJ3 := hJ.with hJ3 (fun j hj => oE2 j (by omega))
  refine v_iconst (v := 0) C dX4_listMarks_5 (by decide) ?_
  refine v_istore_n (lv' := [(0, .ref (ad 45)), (1, .int x), (2, .int 0)]) C [1, 2, 0] dX4_listMarks_6 rfl (by decide) rfl ?_
  have LP5 : ∀ (t : Nat) (E7 : Nat → va_E) (y6 : Int32), JZ l G ad k Z Y E0 E7 → ((0 : Int) ≤ y6.toInt ∧ y6.toInt ≤ 31251) → 31252 - y6.toInt < (t : Int) → V X G A 8 (QV X G A (98 + 9 * k) ad (fun E' => JZ l G ad k Z Y E0 E')) (98 + 9 * k) ad 0 0 E7 7 [(0, .ref (ad 45)), (1, .int x), (2, .int y6)] [] := by
    intro t11
    induction t11 with
    | zero => intro E7 y6 hJ8 hy6 hm10; exfalso; omega
    | succ t11 ih9 =>
      intro E7 y6 hJ8 hy6 hm10
      refine v_iload_n C 2 dX4_listMarks_7 rfl rfl ?_
      refine v_iload_n C 1 dX4_listMarks_8 rfl rfl ?_
      refine b_icmp_ge C 106 dX4_listMarks_9 (by decide) (rfl : Int32.toInt y6 = _) (rfl : Int32.toInt x = _) (fun c12 => ?_) (fun c12 => ?_)
      · exact v_vret C dX4_listMarks_106 rfl hJ8
      · refine v_aload_n C 0 dX4_listMarks_12 rfl rfl ?_
        obtain ⟨i13, hE13, hb13⟩ := hJ8.1.2.2.getO (b := 45) (by omega) rfl
        refine v_getr C 45 dX4_listMarks_13 fX4_9 (by omega) hE13 rfl rfl ?_
        refine v_iload_n C 2 dX4_listMarks_16 rfl rfl ?_
        obtain ⟨f14, hE14⟩ := hJ8.1.2.2.getL (b := 46) (by omega) rfl
        refine v_jald (v := f14 (y6.toInt).toNat) C 46 dX4_listMarks_17 (by omega) hE14 (ti_in (rfl : Int32.toInt y6 = _) (by omega) (by omega)) (by rw [ti_cl (rfl : Int32.toInt y6 = _)]) ?_
        refine v_topl (fun x15 _ => ?_)
        refine v_lstore_n (lv' := [(0, .ref (ad 45)), (1, .int x), (2, .int y6), (3, .long x15)]) C [1, 2, 3, 0] dX4_listMarks_18 rfl (by decide) rfl ?_
        refine v_iconst (v := 0) C dX4_listMarks_19 (by decide) ?_
        refine v_istore (lv' := [(0, .ref (ad 45)), (1, .int x), (2, .int y6), (3, .long x15), (5, .int 0)]) C [1, 2, 3, 4, 0] dX4_listMarks_20 (by decide) rfl ?_
        have LP16 : ∀ (t : Nat) (E19 : Nat → va_E) (y17 : Int64) (y18 : Int32), JZ l G ad k Z Y E0 E19 → ((0 : Int) ≤ y18.toInt ∧ y18.toInt ≤ 64) → 65 - y18.toInt < (t : Int) → V X G A 8 (QV X G A (98 + 9 * k) ad (fun E' => JZ l G ad k Z Y E0 E')) (98 + 9 * k) ad 0 0 E19 22 [(0, .ref (ad 45)), (1, .int x), (2, .int y6), (3, .long y17), (5, .int y18)] [] := by
          intro t23
          induction t23 with
          | zero => intro E19 y17 y18 hJ20 hy18 hm22; exfalso; omega
          | succ t23 ih21 =>
            intro E19 y17 y18 hJ20 hy18 hm22
            refine v_iload C 4 dX4_listMarks_22 rfl ?_
            refine v_bipush (v := 64) C dX4_listMarks_24 (by decide) ?_
            refine b_icmp_ge C 100 dX4_listMarks_26 (by decide) (rfl : Int32.toInt y18 = _) (show (64 : Int32).toInt = 64 by decide) (fun c24 => ?_) (fun c24 => ?_)
            · obtain ⟨x25, ex25⟩ : ∃ y : Int32, y = y6 + 1 := ⟨_, rfl⟩
              have hx25 : x25.toInt = (y6.toInt + 1) := by rw [ex25]; exact ti_add (rfl : Int32.toInt y6 = _) (show (1 : Int32).toInt = 1 by decide) (by omega) (by omega)
              refine v_iinc (v := x25) (lv' := [(0, .ref (ad 45)), (1, .int x), (2, .int x25), (3, .long y17), (5, .int y18)]) C 2 [1, 2, 0, 3, 4] dX4_listMarks_100 rfl (ex25.symm) (by decide) rfl ?_
              refine v_goto C 7 dX4_listMarks_103 (by decide) ?_
              refine v_sub (lv' := [(0, .ref (ad 45)), (1, .int x), (2, .int x25)]) [0, 1, 2] rfl ?_
              exact ih9 _ x25 hJ20 (by have := hx25; omega) (by have := hx25; omega)
            · refine v_lload_n C 3 dX4_listMarks_29 rfl rfl ?_
              refine v_lconst (v := 0) C dX4_listMarks_30 (by decide) ?_
              refine v_lcmp C dX4_listMarks_31 ?_
              refine v_top (fun x26 _ => ?_)
              refine b_if_eq C 100 dX4_listMarks_32 (by decide) (rfl : Int32.toInt x26 = _) (fun c27 => ?_) (fun c27 => ?_)
              · obtain ⟨x28, ex28⟩ : ∃ y : Int32, y = y6 + 1 := ⟨_, rfl⟩
                have hx28 : x28.toInt = (y6.toInt + 1) := by rw [ex28]; exact ti_add (rfl : Int32.toInt y6 = _) (show (1 : Int32).toInt = 1 by decide) (by omega) (by omega)
                refine v_iinc (v := x28) (lv' := [(0, .ref (ad 45)), (1, .int x), (2, .int x28), (3, .long y17), (5, .int y18)]) C 2 [1, 2, 0, 3, 4] dX4_listMarks_100 rfl (ex28.symm) (by decide) rfl ?_
                refine v_goto C 7 dX4_listMarks_103 (by decide) ?_
                refine v_sub (lv' := [(0, .ref (ad 45)), (1, .int x), (2, .int x28)]) [0, 1, 2] rfl ?_
                exact ih9 _ x28 hJ20 (by have := hx28; omega) (by have := hx28; omega)
              · refine v_aload_n C 0 dX4_listMarks_35 rfl rfl ?_
                obtain ⟨i29, hE29, hb29⟩ := hJ20.1.2.2.getO (b := 45) (by omega) rfl
                refine v_geti (v := i29 2) C 45 dX4_listMarks_36 fX4_78 (by omega) hE29 rfl rfl ?_
                have hi29_2 : (0 : Int) ≤ (i29 2).toInt ∧ (i29 2).toInt ≤ 26002 := hb29 2
                refine v_aload_n C 0 dX4_listMarks_39 rfl rfl ?_
                refine v_getr C 45 dX4_listMarks_40 fX4_15 (by omega) hE29 rfl rfl ?_
                obtain ⟨f30, hE30, hb30⟩ := hJ20.1.2.2.getA (b := 47) (by omega) rfl
                refine v_alenI (v := 26002) C 47 dX4_listMarks_43 (by omega) hE30 (by decide) ?_
                refine b_icmp_ge C 100 dX4_listMarks_44 (by decide) (rfl : Int32.toInt (i29 2) = _) (show (26002 : Int32).toInt = 26002 by decide) (fun c31 => ?_) (fun c31 => ?_)
                · obtain ⟨x32, ex32⟩ : ∃ y : Int32, y = y6 + 1 := ⟨_, rfl⟩
                  have hx32 : x32.toInt = (y6.toInt + 1) := by rw [ex32]; exact ti_add (rfl : Int32.toInt y6 = _) (show (1 : Int32).toInt = 1 by decide) (by omega) (by omega)
                  refine v_iinc (v := x32) (lv' := [(0, .ref (ad 45)), (1, .int x), (2, .int x32), (3, .long y17), (5, .int y18)]) C 2 [1, 2, 0, 3, 4] dX4_listMarks_100 rfl (ex32.symm) (by decide) rfl ?_
                  refine v_goto C 7 dX4_listMarks_103 (by decide) ?_
                  refine v_sub (lv' := [(0, .ref (ad 45)), (1, .int x), (2, .int x32)]) [0, 1, 2] rfl ?_
                  exact ih9 _ x32 hJ20 (by have := hx32; omega) (by have := hx32; omega)
                · refine v_lload_n C 3 dX4_listMarks_47 rfl rfl ?_
                  refine v_lload_n C 3 dX4_listMarks_48 rfl rfl ?_
                  refine v_lneg C dX4_listMarks_49 ?_
                  refine v_topl (fun x33 _ => ?_)
                  refine v_land C dX4_listMarks_50 ?_
                  refine v_topl (fun x34 _ => ?_)
                  refine v_lstore (lv' := [(0, .ref (ad 45)), (1, .int x), (2, .int y6), (3, .long y17), (5, .int y18), (6, .long x34)]) C [1, 2, 3, 4, 5, 0] dX4_listMarks_51 (by decide) rfl ?_
                  refine v_aload_n C 0 dX4_listMarks_53 rfl rfl ?_
                  refine v_getr C 45 dX4_listMarks_54 fX4_15 (by omega) hE29 rfl rfl ?_
                  refine v_aload_n C 0 dX4_listMarks_57 rfl rfl ?_
                  refine v_geti (v := i29 2) C 45 dX4_listMarks_58 fX4_78 (by omega) hE29 rfl rfl ?_
                  refine v_aload_n C 0 dX4_listMarks_61 rfl rfl ?_
                  refine v_geti (v := i29 3) C 45 dX4_listMarks_62 fX4_23 (by omega) hE29 rfl rfl ?_
                  refine v_iload_n C 2 dX4_listMarks_65 rfl rfl ?_
                  refine v_bipush (v := 64) C dX4_listMarks_66 (by decide) ?_
                  refine v_imul C dX4_listMarks_68 ?_
                  refine v_top (fun x35 ex35 => ?_)
                  have hx35 : x35.toInt = (y6.toInt * 64) := by rw [ex35]; exact ti_mul (rfl : Int32.toInt y6 = _) (show (64 : Int32).toInt = 64 by decide) (by omega) (by omega)
                  refine v_iadd C dX4_listMarks_69 ?_
                  refine v_top (fun x36 _ => ?_)
                  refine v_lload C 5 dX4_listMarks_70 rfl ?_
                  refine v_lconst (v := 1) C dX4_listMarks_72 (by decide) ?_
                  refine v_lsub C dX4_listMarks_73 ?_
                  refine v_topl (fun x37 _ => ?_)
                  refine v_cSp C dX4_listMarks_74 lX4_81 mJ13_bitCount_95d88 (c_bitCount l G _ ad _ x37) ⟨by decide, by decide⟩ rfl (Nat.le_of_ble_eq_true rfl) ⟨Nat.zero_le _, Nat.zero_le _⟩ (fun r38 hp39 => ?_)
                  refine v_iadd C dX4_listMarks_77 ?_
                  refine v_top (fun x40 _ => ?_)
                  refine v_ast C 47 dX4_listMarks_78 (by omega) hE30 (ti_in (rfl : Int32.toInt (i29 2) = _) (by omega) (by omega)) (fun E41 hE41_47 oE41 => ?_)
                  rw [ti_cl (rfl : Int32.toInt (i29 2) = _)] at hE41_47
                  have hE41_45 := (oE41 45 (by decide)).trans hE29
                  have hJ42 := hJ20.with (hJ20.1.2.2.setA rfl (by unfold P8; omega) hb30 (ti_any x40) hE41_47 oE41) (fun j hj => oE41 j (by omega))
                  refine v_aload_n C 0 dX4_listMarks_79 rfl rfl ?_
                  refine v_dup C dX4_listMarks_80 rfl ?_
                  refine v_geti (v := i29 2) C 45 dX4_listMarks_81 fX4_78 (by omega) hE41_45 rfl rfl ?_
                  refine v_iconst (v := 1) C dX4_listMarks_84 (by decide) ?_
                  refine v_iadd C dX4_listMarks_85 ?_
                  refine v_top (fun x43 ex43 => ?_)
                  have hx43 : x43.toInt = ((i29 2).toInt + 1) := by rw [ex43]; exact ti_add (rfl : Int32.toInt (i29 2) = _) (show (1 : Int32).toInt = 1 by decide) (by omega) (by omega)
                  refine v_puti C 45 dX4_listMarks_86 fX4_78 (by omega) hE41_45 rfl rfl rfl rfl (fun E44 hE44_45 oE44 => ?_)
                  obtain ⟨hJ45, hb46⟩ := hJ42.1.2.2.setO rfl (by unfold P8; omega) hb29 (k := 2) (show (0 : Int) ≤ Int32.toInt x43 ∧ Int32.toInt x43 ≤ 26002 by have := hx43; omega) hE44_45 oE44
                  have hJ45 := hJ42.with hJ45 (fun j hj => oE44 j (by omega))
                  refine v_lload_n C 3 dX4_listMarks_89 rfl rfl ?_
                  refine v_lload C 5 dX4_listMarks_90 rfl ?_
                  refine v_lxor C dX4_listMarks_92 ?_
                  refine v_topl (fun x47 _ => ?_)
                  refine v_lstore_n (lv' := [(0, .ref (ad 45)), (1, .int x), (2, .int y6), (3, .long x47), (5, .int y18), (6, .long x34)]) C [1, 2, 3, 0, 4, 5] dX4_listMarks_93 rfl (by decide) rfl ?_
                  obtain ⟨x48, ex48⟩ : ∃ y : Int32, y = y18 + 1 := ⟨_, rfl⟩
                  have hx48 : x48.toInt = (y18.toInt + 1) := by rw [ex48]; exact ti_add (rfl : Int32.toInt y18 = _) (show (1 : Int32).toInt = 1 by decide) (by omega) (by omega)
                  refine v_iinc (v := x48) (lv' := [(0, .ref (ad 45)), (1, .int x), (2, .int y6), (3, .long x47), (5, .int x48), (6, .long x34)]) C 4 [1, 2, 3, 4, 0, 5] dX4_listMarks_94 rfl (ex48.symm) (by decide) rfl ?_
                  refine v_goto C 22 dX4_listMarks_97 (by decide) ?_
                  refine v_sub (lv' := [(0, .ref (ad 45)), (1, .int x), (2, .int y6), (3, .long x47), (5, .int x48)]) [0, 1, 2, 3, 4] rfl ?_
                  exact ih21 _ x47 x48 hJ45 (by have := hx48; omega) (by have := hx48; omega)
        exact LP16 100000 _ x15 0 hJ8 (by have := (show (0 : Int32).toInt = 0 by decide); omega) (by have := (show (0 : Int32).toInt = 0 by decide); omega)
  exact LP5 100000 _ 0 hJ3 (by have := (show (0 : Int32).toInt = 0 by decide); omega) (by have := (show (0 : Int32).toInt = 0 by decide); omega)

set_option maxRecDepth 20000 in
theorem tz_X4_markChanges (l : Launch) (G : Gl) (ad : Nat → Nat) {k : Nat} {Z : (Nat → va_E) → Prop} {Y : Nat → Int32 → (Nat → va_E) → Prop} {E0 E : Nat → va_E} (hJ : JZ l G ad k Z Y E0 E) (b : Nat) (hb : ZC k b) : CtV l G yX4_markChanges cX4_markChanges 3 1 23 (98 + 9 * k) ad E [.ref (ad 45), .ref (ad b)] (fun E' => JZ l G ad k Z Y E0 E') := by
  refine CtV.of (by decide) (Nat.le_of_ble_eq_true rfl) (fun X A C => ?_)
  refine v_sub (lv' := [(0, .ref (ad 45)), (1, .ref (ad b))]) [0, 1] rfl ?_
  have hk5 := hJ.1.1
  have hbn := hb.n
  refine v_aload_n C 1 dX4_markChanges_0 rfl rfl ?_
  refine v_aload_n C 0 dX4_markChanges_1 rfl rfl ?_
  obtain ⟨i1, hE1, hb1⟩ := hJ.1.2.2.getO (b := 45) (by omega) rfl
  refine v_geti (v := i1 3) C 45 dX4_markChanges_2 fX4_23 (by omega) hE1 rfl rfl ?_
  refine v_iconst (v := 1) C dX4_markChanges_5 (by decide) ?_
  refine v_isub C dX4_markChanges_6 ?_
  refine v_top (fun x2 _ => ?_)
  obtain ⟨i5, hE5, hb5⟩ := hJ.1.2.2.getO (b := b) (by omega) hb.t0
  refine v_cVp C dX4_markChanges_7 lX4_60 mX6_stretchAt b (by omega) hE5 (by decide) rfl (t_X6_stretchAt l G ad hJ.1 b hb x2) ⟨by decide, by decide⟩ rfl (Nat.le_of_ble_eq_true rfl) ⟨Nat.zero_le _, Nat.zero_le _⟩ (fun r3 hp4 => ?_)
  refine v_iconst (v := 1) C dX4_markChanges_10 (by decide) ?_
  refine v_iadd C dX4_markChanges_11 ?_
  refine v_top (fun x6 ex6 => ?_)
  have hx6 : x6.toInt = (r3.toInt + 1) := by rw [ex6]; exact ti_add (rfl : Int32.toInt r3 = _) (show (1 : Int32).toInt = 1 by decide) (by omega) (by omega)
  refine v_istore_n (lv' := [(0, .ref (ad 45)), (1, .ref (ad b)), (2, .int x6)]) C [1, 2, 0] dX4_markChanges_12 rfl (by decide) rfl ?_
  have LP7 : ∀ (t : Nat) (E9 : Nat → va_E) (y8 : Int32), JZ l G ad k Z Y E0 E9 → ((1 : Int) ≤ y8.toInt ∧ y8.toInt ≤ 801) → 802 - y8.toInt < (t : Int) → V X G A 3 (QV X G A (98 + 9 * k) ad (fun E' => JZ l G ad k Z Y E0 E')) (98 + 9 * k) ad 0 0 E9 13 [(0, .ref (ad 45)), (1, .ref (ad b)), (2, .int y8)] [] := by
    intro t13
    induction t13 with
    | zero => intro E9 y8 hJ10 hy8 hm12; exfalso; omega
    | succ t13 ih11 =>
      intro E9 y8 hJ10 hy8 hm12
      refine v_iload_n C 2 dX4_markChanges_13 rfl rfl ?_
      refine v_aload_n C 1 dX4_markChanges_14 rfl rfl ?_
      obtain ⟨i14, hE14, hb14⟩ := hJ10.1.2.2.getO (b := b) (by omega) hb.t0
      refine v_geti (v := i14 10) C b dX4_markChanges_15 fX4_66 (by omega) hE14 rfl rfl ?_
      have hi14_10 : (0 : Int) ≤ (i14 10).toInt ∧ (i14 10).toInt ≤ 800 := hb14 10
      refine b_icmp_gt C 74 dX4_markChanges_18 (by decide) (rfl : Int32.toInt y8 = _) (rfl : Int32.toInt (i14 10) = _) (fun c15 => ?_) (fun c15 => ?_)
      · exact v_vret C dX4_markChanges_74 rfl hJ10
      · refine v_aload_n C 1 dX4_markChanges_21 rfl rfl ?_
        refine v_getr C b dX4_markChanges_22 fX4_69 (by omega) hE14 rfl rfl ?_
        refine v_iload_n C 2 dX4_markChanges_25 rfl rfl ?_
        obtain ⟨f16, hE16, hb16⟩ := hJ10.1.2.2.getA (b := (b + 6)) (by omega) hb.t6
        refine v_ald (v := f16 (y8.toInt).toNat) C (b + 6) dX4_markChanges_26 (by omega) hE16 (ti_in (rfl : Int32.toInt y8 = _) (by omega) (by omega)) (by rw [ti_cl (rfl : Int32.toInt y8 = _)]) ?_
        refine v_top (fun x17 _ => ?_)
        refine v_aload_n C 0 dX4_markChanges_27 rfl rfl ?_
        obtain ⟨i18, hE18, hb18⟩ := hJ10.1.2.2.getO (b := 45) (by omega) rfl
        refine v_geti (v := i18 4) C 45 dX4_markChanges_28 fX4_27 (by omega) hE18 rfl rfl ?_
        refine b_icmp_gt C 74 dX4_markChanges_31 (by decide) (rfl : Int32.toInt x17 = _) (rfl : Int32.toInt (i18 4) = _) (fun c19 => ?_) (fun c19 => ?_)
        · exact v_vret C dX4_markChanges_74 rfl hJ10
        · refine v_aload_n C 0 dX4_markChanges_34 rfl rfl ?_
          refine v_aload_n C 1 dX4_markChanges_35 rfl rfl ?_
          refine v_getr C b dX4_markChanges_36 fX4_69 (by omega) hE14 rfl rfl ?_
          refine v_iload_n C 2 dX4_markChanges_39 rfl rfl ?_
          refine v_ald (v := f16 (y8.toInt).toNat) C (b + 6) dX4_markChanges_40 (by omega) hE16 (ti_in (rfl : Int32.toInt y8 = _) (by omega) (by omega)) (by rw [ti_cl (rfl : Int32.toInt y8 = _)]) ?_
          refine v_top (fun x20 _ => ?_)
          refine v_iconst (v := 1) C dX4_markChanges_41 (by decide) ?_
          refine v_isub C dX4_markChanges_42 ?_
          refine v_top (fun x21 _ => ?_)
          refine v_cVv C dX4_markChanges_43 lX4_36 mX4_mark 45 (by omega) hE18 (by decide) rfl (tz_X4_mark l G ad hJ10 x21) ⟨by decide, by decide⟩ rfl (Nat.le_of_ble_eq_true rfl) ⟨Nat.zero_le _, Nat.zero_le _⟩ (fun E23 hJ25 => ?_)
          refine v_aload_n C 0 dX4_markChanges_46 rfl rfl ?_
          refine v_aload_n C 1 dX4_markChanges_47 rfl rfl ?_
          obtain ⟨i26, hE26, hb26⟩ := hJ25.1.2.2.getO (b := b) (by omega) hb.t0
          refine v_getr C b dX4_markChanges_48 fX4_69 (by omega) hE26 rfl rfl ?_
          refine v_iload_n C 2 dX4_markChanges_51 rfl rfl ?_
          obtain ⟨f27, hE27, hb27⟩ := hJ25.1.2.2.getA (b := (b + 6)) (by omega) hb.t6
          refine v_ald (v := f27 (y8.toInt).toNat) C (b + 6) dX4_markChanges_52 (by omega) hE27 (ti_in (rfl : Int32.toInt y8 = _) (by omega) (by omega)) (by rw [ti_cl (rfl : Int32.toInt y8 = _)]) ?_
          refine v_top (fun x28 _ => ?_)
          obtain ⟨i33, hE33, hb33⟩ := hJ25.1.2.2.getO (b := 45) (by omega) rfl
          refine v_cVv C dX4_markChanges_53 lX4_36 mX4_mark 45 (by omega) hE33 (by decide) rfl (tz_X4_mark l G ad hJ25 x28) ⟨by decide, by decide⟩ rfl (Nat.le_of_ble_eq_true rfl) ⟨Nat.zero_le _, Nat.zero_le _⟩ (fun E30 hJ32 => ?_)
          refine v_aload_n C 0 dX4_markChanges_56 rfl rfl ?_
          refine v_aload_n C 1 dX4_markChanges_57 rfl rfl ?_
          obtain ⟨i34, hE34, hb34⟩ := hJ32.1.2.2.getO (b := b) (by omega) hb.t0
          refine v_getr C b dX4_markChanges_58 fX4_69 (by omega) hE34 rfl rfl ?_
          refine v_iload_n C 2 dX4_markChanges_61 rfl rfl ?_
          obtain ⟨f35, hE35, hb35⟩ := hJ32.1.2.2.getA (b := (b + 6)) (by omega) hb.t6
          refine v_ald (v := f35 (y8.toInt).toNat) C (b + 6) dX4_markChanges_62 (by omega) hE35 (ti_in (rfl : Int32.toInt y8 = _) (by omega) (by omega)) (by rw [ti_cl (rfl : Int32.toInt y8 = _)]) ?_
          refine v_top (fun x36 _ => ?_)
          refine v_iconst (v := 1) C dX4_markChanges_63 (by decide) ?_
          refine v_iadd C dX4_markChanges_64 ?_
          refine v_top (fun x37 _ => ?_)
          obtain ⟨i42, hE42, hb42⟩ := hJ32.1.2.2.getO (b := 45) (by omega) rfl
          refine v_cVv C dX4_markChanges_65 lX4_36 mX4_mark 45 (by omega) hE42 (by decide) rfl (tz_X4_mark l G ad hJ32 x37) ⟨by decide, by decide⟩ rfl (Nat.le_of_ble_eq_true rfl) ⟨Nat.zero_le _, Nat.zero_le _⟩ (fun E39 hJ41 => ?_)
          obtain ⟨x43, ex43⟩ : ∃ y : Int32, y = y8 + 1 := ⟨_, rfl⟩
          have hx43 : x43.toInt = (y8.toInt + 1) := by rw [ex43]; exact ti_add (rfl : Int32.toInt y8 = _) (show (1 : Int32).toInt = 1 by decide) (by omega) (by omega)
          refine v_iinc (v := x43) (lv' := [(0, .ref (ad 45)), (1, .ref (ad b)), (2, .int x43)]) C 2 [1, 2, 0] dX4_markChanges_68 rfl (ex43.symm) (by decide) rfl ?_
          refine v_goto C 13 dX4_markChanges_71 (by decide) ?_
          exact ih11 _ x43 hJ41 (by have := hx43; omega) (by have := hx43; omega)
  exact LP7 100000 _ x6 hJ (by have := hx6; omega) (by have := hx6; omega)

set_option maxRecDepth 20000 in
theorem tz_X4_markDays (l : Launch) (G : Gl) (ad : Nat → Nat) {k : Nat} {Z : (Nat → va_E) → Prop} {Y : Nat → Int32 → (Nat → va_E) → Prop} {E0 E : Nat → va_E} (hJ : JZ l G ad k Z Y E0 E) (b : Nat) (hb : ZC k b) (x : Int32) : CtV l G yX4_markDays cX4_markDays 9 2 47 (98 + 9 * k) ad E [.ref (ad 45), .ref (ad b), .int x] (fun E' => JZ l G ad k Z Y E0 E') := by
  refine CtV.of (by decide) (Nat.le_of_ble_eq_true rfl) (fun X A C => ?_)
  refine v_sub (lv' := [(0, .ref (ad 45)), (1, .ref (ad b)), (2, .int x)]) [0, 1, 2] rfl ?_
  have hk5 := hJ.1.1
  have hbn := hb.n
  refine v_iconst (v := 0) C dX4_markDays_0 (by decide) ?_
  refine v_aload_n C 0 dX4_markDays_1 rfl rfl ?_
  obtain ⟨i1, hE1, hb1⟩ := hJ.1.2.2.getO (b := 45) (by omega) rfl
  refine v_geti (v := i1 3) C 45 dX4_markDays_2 fX4_23 (by omega) hE1 rfl rfl ?_
  refine v_sipush (v := 720) C dX4_markDays_5 (by decide) ?_
  refine v_isub C dX4_markDays_8 ?_
  refine v_top (fun x2 _ => ?_)
  refine v_sipush (v := 1440) C dX4_markDays_9 (by decide) ?_
  refine v_idiv C dX4_markDays_12 (by decide) ?_
  refine v_top (fun x3 ex3 => ?_)
  have hx3 : (-1491308 : Int) ≤ x3.toInt ∧ x3.toInt ≤ 1491308 := by rw [ex3]; exact ti_tdb (show (1440 : Int32).toInt = 1440 by decide) (by decide)
  refine v_iconst (v := 1) C dX4_markDays_13 (by decide) ?_
  refine v_isub C dX4_markDays_14 ?_
  refine v_top (fun x4 ex4 => ?_)
  have hx4 : x4.toInt = (x3.toInt - 1) := by rw [ex4]; exact ti_sub (rfl : Int32.toInt x3 = _) (show (1 : Int32).toInt = 1 by decide) (by omega) (by omega)
  refine v_mmax C dX4_markDays_15 lX4_72 mJ9_max_7cf53.2.2.1 mJ9_max_7cf53.2.1 mJ9_max_7cf53.1 ⟨by decide, Nat.le_of_ble_eq_true rfl⟩ ⟨Nat.zero_le _, Nat.zero_le _⟩ ?_
  refine v_top (fun x5 ex5 => ?_)
  have hx5 : 0 ≤ x5.toInt ∧ (x3.toInt - 1) ≤ x5.toInt ∧ (x5.toInt = 0 ∨ x5.toInt = (x3.toInt - 1)) := by rw [ex5]; exact mmax_b (show (0 : Int32).toInt = 0 by decide) hx4
  refine v_istore_n (lv' := [(0, .ref (ad 45)), (1, .ref (ad b)), (2, .int x), (3, .int x5)]) C [1, 2, 3, 0] dX4_markDays_18 rfl (by decide) rfl ?_
  refine v_iload_n C 2 dX4_markDays_19 rfl rfl ?_
  refine v_iconst (v := 1) C dX4_markDays_20 (by decide) ?_
  refine v_isub C dX4_markDays_21 ?_
  refine v_top (fun x6 _ => ?_)
  refine v_aload_n C 0 dX4_markDays_22 rfl rfl ?_
  refine v_geti (v := i1 4) C 45 dX4_markDays_23 fX4_27 (by omega) hE1 rfl rfl ?_
  refine v_sipush (v := 720) C dX4_markDays_26 (by decide) ?_
  refine v_iadd C dX4_markDays_29 ?_
  refine v_top (fun x7 _ => ?_)
  refine v_sipush (v := 1440) C dX4_markDays_30 (by decide) ?_
  refine v_idiv C dX4_markDays_33 (by decide) ?_
  refine v_top (fun x8 ex8 => ?_)
  have hx8 : (-1491308 : Int) ≤ x8.toInt ∧ x8.toInt ≤ 1491308 := by rw [ex8]; exact ti_tdb (show (1440 : Int32).toInt = 1440 by decide) (by decide)
  refine v_mmin C dX4_markDays_34 lX4_30 mJ9_min_7cf53.2.2.1 mJ9_min_7cf53.2.1 mJ9_min_7cf53.1 ⟨by decide, Nat.le_of_ble_eq_true rfl⟩ ⟨Nat.zero_le _, Nat.zero_le _⟩ ?_
  refine v_top (fun x9 ex9 => ?_)
  have hx9 : x9.toInt ≤ x6.toInt ∧ x9.toInt ≤ x8.toInt ∧ (x9.toInt = x6.toInt ∨ x9.toInt = x8.toInt) := by rw [ex9]; exact mmin_b (rfl : Int32.toInt x6 = _) (rfl : Int32.toInt x8 = _)
  refine v_istore (lv' := [(0, .ref (ad 45)), (1, .ref (ad b)), (2, .int x), (3, .int x5), (4, .int x9)]) C [1, 2, 3, 4, 0] dX4_markDays_37 (by decide) rfl ?_
  refine v_aload_n C 1 dX4_markDays_39 rfl rfl ?_
  refine v_iload_n C 3 dX4_markDays_40 rfl rfl ?_
  refine v_sipush (v := 1440) C dX4_markDays_41 (by decide) ?_
  refine v_imul C dX4_markDays_44 ?_
  refine v_top (fun x10 ex10 => ?_)
  have hx10 : x10.toInt = (x5.toInt * 1440) := by rw [ex10]; exact ti_mul (rfl : Int32.toInt x5 = _) (show (1440 : Int32).toInt = 1440 by decide) (by omega) (by omega)
  refine v_sipush (v := 720) C dX4_markDays_45 (by decide) ?_
  refine v_isub C dX4_markDays_48 ?_
  refine v_top (fun x11 ex11 => ?_)
  have hx11 : x11.toInt = ((x5.toInt * 1440) - 720) := by rw [ex11]; exact ti_sub hx10 (show (720 : Int32).toInt = 720 by decide) (by omega) (by omega)
  obtain ⟨i14, hE14, hb14⟩ := hJ.1.2.2.getO (b := b) (by omega) hb.t0
  refine v_cVp C dX4_markDays_49 lX4_60 mX6_stretchAt b (by omega) hE14 (by decide) rfl (t_X6_stretchAt l G ad hJ.1 b hb x11) ⟨by decide, by decide⟩ rfl (Nat.le_of_ble_eq_true rfl) ⟨Nat.zero_le _, Nat.zero_le _⟩ (fun r12 hp13 => ?_)
  refine v_istore (lv' := [(0, .ref (ad 45)), (1, .ref (ad b)), (2, .int x), (3, .int x5), (4, .int x9), (5, .int r12)]) C [1, 2, 3, 4, 5, 0] dX4_markDays_52 (by decide) rfl ?_
  refine v_iload_n C 3 dX4_markDays_54 rfl rfl ?_
  refine v_istore (lv' := [(0, .ref (ad 45)), (1, .ref (ad b)), (2, .int x), (3, .int x5), (4, .int x9), (5, .int r12), (6, .int x5)]) C [1, 2, 3, 4, 5, 6, 0] dX4_markDays_55 (by decide) rfl ?_
  have LP15 : ∀ (t : Nat) (E18 : Nat → va_E) (y16 : Int32) (y17 : Int32), JZ l G ad k Z Y E0 E18 → ((0 : Int) ≤ y16.toInt ∧ y16.toInt ≤ 800) → ((0 : Int) ≤ y17.toInt ∧ y17.toInt ≤ 1600000) → 1600001 - y17.toInt < (t : Int) → V X G A 9 (QV X G A (98 + 9 * k) ad (fun E' => JZ l G ad k Z Y E0 E')) (98 + 9 * k) ad 0 0 E18 57 [(0, .ref (ad 45)), (1, .ref (ad b)), (4, .int x9), (5, .int y16), (6, .int y17)] [] := by
    intro t22
    induction t22 with
    | zero => intro E18 y16 y17 hJ19 hy16 hy17 hm21; exfalso; omega
    | succ t22 ih20 =>
      intro E18 y16 y17 hJ19 hy16 hy17 hm21
      refine v_iload C 4 dX4_markDays_57 rfl ?_
      refine v_iload C 2 dX4_markDays_59 rfl ?_
      refine b_icmp_gt C 141 dX4_markDays_61 (by decide) (rfl : Int32.toInt y17 = _) (rfl : Int32.toInt x9 = _) (fun c23 => ?_) (fun c23 => ?_)
      · exact v_vret C dX4_markDays_141 rfl hJ19
      · refine v_iload C 4 dX4_markDays_64 rfl ?_
        refine v_sipush (v := 1440) C dX4_markDays_66 (by decide) ?_
        refine v_imul C dX4_markDays_69 ?_
        refine v_top (fun x24 ex24 => ?_)
        have hx24 : x24.toInt = (y17.toInt * 1440) := by rw [ex24]; exact ti_mul (rfl : Int32.toInt y17 = _) (show (1440 : Int32).toInt = 1440 by decide) (by omega) (by omega)
        refine v_sipush (v := 720) C dX4_markDays_70 (by decide) ?_
        refine v_isub C dX4_markDays_73 ?_
        refine v_top (fun x25 ex25 => ?_)
        have hx25 : x25.toInt = ((y17.toInt * 1440) - 720) := by rw [ex25]; exact ti_sub hx24 (show (720 : Int32).toInt = 720 by decide) (by omega) (by omega)
        refine v_istore (lv' := [(0, .ref (ad 45)), (1, .ref (ad b)), (4, .int x9), (5, .int y16), (6, .int y17), (7, .int x25)]) C [1, 2, 3, 4, 5, 0] dX4_markDays_74 (by decide) rfl ?_
        have LP26 : ∀ (t : Nat) (E28 : Nat → va_E) (y27 : Int32), JZ l G ad k Z Y E0 E28 → ((0 : Int) ≤ y27.toInt ∧ y27.toInt ≤ 800) → 801 - y27.toInt < (t : Int) → V X G A 9 (QV X G A (98 + 9 * k) ad (fun E' => JZ l G ad k Z Y E0 E')) (98 + 9 * k) ad 0 0 E28 76 [(0, .ref (ad 45)), (1, .ref (ad b)), (4, .int x9), (5, .int y27), (6, .int y17), (7, .int x25)] [] := by
          intro t32
          induction t32 with
          | zero => intro E28 y27 hJ29 hy27 hm31; exfalso; omega
          | succ t32 ih30 =>
            intro E28 y27 hJ29 hy27 hm31
            refine v_iload C 3 dX4_markDays_76 rfl ?_
            refine v_aload_n C 1 dX4_markDays_78 rfl rfl ?_
            obtain ⟨i33, hE33, hb33⟩ := hJ29.1.2.2.getO (b := b) (by omega) hb.t0
            refine v_geti (v := i33 10) C b dX4_markDays_79 fX4_66 (by omega) hE33 rfl rfl ?_
            have hi33_10 : (0 : Int) ≤ (i33 10).toInt ∧ (i33 10).toInt ≤ 800 := hb33 10
            refine b_icmp_ge C 105 dX4_markDays_82 (by decide) (rfl : Int32.toInt y27 = _) (rfl : Int32.toInt (i33 10) = _) (fun c34 => ?_) (fun c34 => ?_)
            · refine v_aload_n C 1 dX4_markDays_105 rfl rfl ?_
              refine v_iload C 4 dX4_markDays_106 rfl ?_
              refine v_iload C 3 dX4_markDays_108 rfl ?_
              refine v_cVp C dX4_markDays_110 lX4_75 mX6_firstOfDay b (by omega) hE33 (by decide) rfl (t_X6_firstOfDay l G ad hJ29.1 b hb y17 y27 (show (0 : Int) ≤ Int32.toInt y27 ∧ Int32.toInt y27 ≤ 800 by omega)) ⟨by decide, by decide⟩ rfl (Nat.le_of_ble_eq_true rfl) ⟨Nat.zero_le _, Nat.zero_le _⟩ (fun r35 hp36 => ?_)
              refine v_istore (lv' := [(0, .ref (ad 45)), (1, .ref (ad b)), (4, .int x9), (5, .int y27), (6, .int y17), (7, .int x25), (8, .int r35)]) C [1, 2, 3, 4, 5, 6, 0] dX4_markDays_113 (by decide) rfl ?_
              refine v_iload C 6 dX4_markDays_115 rfl ?_
              refine v_iconst (v := (-1)) C dX4_markDays_117 (by decide) ?_
              refine b_icmp_eq C 135 dX4_markDays_118 (by decide) (rfl : Int32.toInt r35 = _) (show ((-1) : Int32).toInt = (-1) by decide) (fun c37 => ?_) (fun c37 => ?_)
              · obtain ⟨x38, ex38⟩ : ∃ y : Int32, y = y17 + 1 := ⟨_, rfl⟩
                have hx38 : x38.toInt = (y17.toInt + 1) := by rw [ex38]; exact ti_add (rfl : Int32.toInt y17 = _) (show (1 : Int32).toInt = 1 by decide) (by omega) (by omega)
                refine v_iinc (v := x38) (lv' := [(0, .ref (ad 45)), (1, .ref (ad b)), (4, .int x9), (5, .int y27), (6, .int x38), (7, .int x25), (8, .int r35)]) C 4 [1, 2, 3, 4, 0, 5, 6] dX4_markDays_135 rfl (ex38.symm) (by decide) rfl ?_
                refine v_goto C 57 dX4_markDays_138 (by decide) ?_
                refine v_sub (lv' := [(0, .ref (ad 45)), (1, .ref (ad b)), (4, .int x9), (5, .int y27), (6, .int x38)]) [0, 1, 2, 3, 4] rfl ?_
                exact ih20 _ y27 x38 hJ29 (by have := hx38; omega) (by have := hx38; omega) (by have := hx38; omega)
              · refine v_aload_n C 0 dX4_markDays_121 rfl rfl ?_
                refine v_iload C 6 dX4_markDays_122 rfl ?_
                refine v_iconst (v := 1) C dX4_markDays_124 (by decide) ?_
                refine v_isub C dX4_markDays_125 ?_
                refine v_top (fun x39 _ => ?_)
                obtain ⟨i44, hE44, hb44⟩ := hJ29.1.2.2.getO (b := 45) (by omega) rfl
                refine v_cVv C dX4_markDays_126 lX4_36 mX4_mark 45 (by omega) hE44 (by decide) rfl (tz_X4_mark l G ad hJ29 x39) ⟨by decide, by decide⟩ rfl (Nat.le_of_ble_eq_true rfl) ⟨Nat.zero_le _, Nat.zero_le _⟩ (fun E41 hJ43 => ?_)
                refine v_aload_n C 0 dX4_markDays_129 rfl rfl ?_
                refine v_iload C 6 dX4_markDays_130 rfl ?_
                obtain ⟨i49, hE49, hb49⟩ := hJ43.1.2.2.getO (b := 45) (by omega) rfl
                refine v_cVv C dX4_markDays_132 lX4_36 mX4_mark 45 (by omega) hE49 (by decide) rfl (tz_X4_mark l G ad hJ43 r35) ⟨by decide, by decide⟩ rfl (Nat.le_of_ble_eq_true rfl) ⟨Nat.zero_le _, Nat.zero_le _⟩ (fun E46 hJ48 => ?_)
                obtain ⟨x50, ex50⟩ : ∃ y : Int32, y = y17 + 1 := ⟨_, rfl⟩
                have hx50 : x50.toInt = (y17.toInt + 1) := by rw [ex50]; exact ti_add (rfl : Int32.toInt y17 = _) (show (1 : Int32).toInt = 1 by decide) (by omega) (by omega)
                refine v_iinc (v := x50) (lv' := [(0, .ref (ad 45)), (1, .ref (ad b)), (4, .int x9), (5, .int y27), (6, .int x50), (7, .int x25), (8, .int r35)]) C 4 [1, 2, 3, 4, 0, 5, 6] dX4_markDays_135 rfl (ex50.symm) (by decide) rfl ?_
                refine v_goto C 57 dX4_markDays_138 (by decide) ?_
                refine v_sub (lv' := [(0, .ref (ad 45)), (1, .ref (ad b)), (4, .int x9), (5, .int y27), (6, .int x50)]) [0, 1, 2, 3, 4] rfl ?_
                exact ih20 _ y27 x50 hJ48 (by have := hx50; omega) (by have := hx50; omega) (by have := hx50; omega)
            · refine v_aload_n C 1 dX4_markDays_85 rfl rfl ?_
              refine v_getr C b dX4_markDays_86 fX4_69 (by omega) hE33 rfl rfl ?_
              refine v_iload C 3 dX4_markDays_89 rfl ?_
              refine v_iconst (v := 1) C dX4_markDays_91 (by decide) ?_
              refine v_iadd C dX4_markDays_92 ?_
              refine v_top (fun x51 ex51 => ?_)
              have hx51 : x51.toInt = (y27.toInt + 1) := by rw [ex51]; exact ti_add (rfl : Int32.toInt y27 = _) (show (1 : Int32).toInt = 1 by decide) (by omega) (by omega)
              obtain ⟨f52, hE52, hb52⟩ := hJ29.1.2.2.getA (b := (b + 6)) (by omega) hb.t6
              refine v_ald (v := f52 ((y27.toInt + 1)).toNat) C (b + 6) dX4_markDays_93 (by omega) hE52 (ti_in hx51 (by omega) (by omega)) (by rw [ti_cl hx51]) ?_
              refine v_top (fun x53 _ => ?_)
              refine v_iload C 5 dX4_markDays_94 rfl ?_
              refine b_icmp_gt C 105 dX4_markDays_96 (by decide) (rfl : Int32.toInt x53 = _) hx25 (fun c54 => ?_) (fun c54 => ?_)
              · refine v_aload_n C 1 dX4_markDays_105 rfl rfl ?_
                refine v_iload C 4 dX4_markDays_106 rfl ?_
                refine v_iload C 3 dX4_markDays_108 rfl ?_
                refine v_cVp C dX4_markDays_110 lX4_75 mX6_firstOfDay b (by omega) hE33 (by decide) rfl (t_X6_firstOfDay l G ad hJ29.1 b hb y17 y27 (show (0 : Int) ≤ Int32.toInt y27 ∧ Int32.toInt y27 ≤ 800 by omega)) ⟨by decide, by decide⟩ rfl (Nat.le_of_ble_eq_true rfl) ⟨Nat.zero_le _, Nat.zero_le _⟩ (fun r55 hp56 => ?_)
                refine v_istore (lv' := [(0, .ref (ad 45)), (1, .ref (ad b)), (4, .int x9), (5, .int y27), (6, .int y17), (7, .int x25), (8, .int r55)]) C [1, 2, 3, 4, 5, 6, 0] dX4_markDays_113 (by decide) rfl ?_
                refine v_iload C 6 dX4_markDays_115 rfl ?_
                refine v_iconst (v := (-1)) C dX4_markDays_117 (by decide) ?_
                refine b_icmp_eq C 135 dX4_markDays_118 (by decide) (rfl : Int32.toInt r55 = _) (show ((-1) : Int32).toInt = (-1) by decide) (fun c57 => ?_) (fun c57 => ?_)
                · obtain ⟨x58, ex58⟩ : ∃ y : Int32, y = y17 + 1 := ⟨_, rfl⟩
                  have hx58 : x58.toInt = (y17.toInt + 1) := by rw [ex58]; exact ti_add (rfl : Int32.toInt y17 = _) (show (1 : Int32).toInt = 1 by decide) (by omega) (by omega)
                  refine v_iinc (v := x58) (lv' := [(0, .ref (ad 45)), (1, .ref (ad b)), (4, .int x9), (5, .int y27), (6, .int x58), (7, .int x25), (8, .int r55)]) C 4 [1, 2, 3, 4, 0, 5, 6] dX4_markDays_135 rfl (ex58.symm) (by decide) rfl ?_
                  refine v_goto C 57 dX4_markDays_138 (by decide) ?_
                  refine v_sub (lv' := [(0, .ref (ad 45)), (1, .ref (ad b)), (4, .int x9), (5, .int y27), (6, .int x58)]) [0, 1, 2, 3, 4] rfl ?_
                  exact ih20 _ y27 x58 hJ29 (by have := hx58; omega) (by have := hx58; omega) (by have := hx58; omega)
                · refine v_aload_n C 0 dX4_markDays_121 rfl rfl ?_
                  refine v_iload C 6 dX4_markDays_122 rfl ?_
                  refine v_iconst (v := 1) C dX4_markDays_124 (by decide) ?_
                  refine v_isub C dX4_markDays_125 ?_
                  refine v_top (fun x59 _ => ?_)
                  obtain ⟨i64, hE64, hb64⟩ := hJ29.1.2.2.getO (b := 45) (by omega) rfl
                  refine v_cVv C dX4_markDays_126 lX4_36 mX4_mark 45 (by omega) hE64 (by decide) rfl (tz_X4_mark l G ad hJ29 x59) ⟨by decide, by decide⟩ rfl (Nat.le_of_ble_eq_true rfl) ⟨Nat.zero_le _, Nat.zero_le _⟩ (fun E61 hJ63 => ?_)
                  refine v_aload_n C 0 dX4_markDays_129 rfl rfl ?_
                  refine v_iload C 6 dX4_markDays_130 rfl ?_
                  obtain ⟨i69, hE69, hb69⟩ := hJ63.1.2.2.getO (b := 45) (by omega) rfl
                  refine v_cVv C dX4_markDays_132 lX4_36 mX4_mark 45 (by omega) hE69 (by decide) rfl (tz_X4_mark l G ad hJ63 r55) ⟨by decide, by decide⟩ rfl (Nat.le_of_ble_eq_true rfl) ⟨Nat.zero_le _, Nat.zero_le _⟩ (fun E66 hJ68 => ?_)
                  obtain ⟨x70, ex70⟩ : ∃ y : Int32, y = y17 + 1 := ⟨_, rfl⟩
                  have hx70 : x70.toInt = (y17.toInt + 1) := by rw [ex70]; exact ti_add (rfl : Int32.toInt y17 = _) (show (1 : Int32).toInt = 1 by decide) (by omega) (by omega)
                  refine v_iinc (v := x70) (lv' := [(0, .ref (ad 45)), (1, .ref (ad b)), (4, .int x9), (5, .int y27), (6, .int x70), (7, .int x25), (8, .int r55)]) C 4 [1, 2, 3, 4, 0, 5, 6] dX4_markDays_135 rfl (ex70.symm) (by decide) rfl ?_
                  refine v_goto C 57 dX4_markDays_138 (by decide) ?_
                  refine v_sub (lv' := [(0, .ref (ad 45)), (1, .ref (ad b)), (4, .int x9), (5, .int y27), (6, .int x70)]) [0, 1, 2, 3, 4] rfl ?_
                  exact ih20 _ y27 x70 hJ68 (by have := hx70; omega) (by have := hx70; omega) (by have := hx70; omega)
              · obtain ⟨x71, ex71⟩ : ∃ y : Int32, y = y27 + 1 := ⟨_, rfl⟩
                have hx71 : x71.toInt = (y27.toInt + 1) := by rw [ex71]; exact ti_add (rfl : Int32.toInt y27 = _) (show (1 : Int32).toInt = 1 by decide) (by omega) (by omega)
                refine v_iinc (v := x71) (lv' := [(0, .ref (ad 45)), (1, .ref (ad b)), (4, .int x9), (5, .int x71), (6, .int y17), (7, .int x25)]) C 3 [1, 2, 3, 0, 4, 5] dX4_markDays_99 rfl (ex71.symm) (by decide) rfl ?_
                refine v_goto C 76 dX4_markDays_102 (by decide) ?_
                exact ih30 _ x71 hJ29 (by have := hx71; omega) (by have := hx71; omega)
        exact LP26 100000 _ y16 hJ19 (by omega) (by omega)
  refine v_sub (lv' := [(0, .ref (ad 45)), (1, .ref (ad b)), (4, .int x9), (5, .int r12), (6, .int x5)]) [0, 1, 4, 5, 6] rfl ?_
  exact LP15 2000000 _ r12 x5 hJ (by omega) (by omega) (by omega)

set_option maxRecDepth 20000 in
theorem tz_X4_gather (l : Launch) (G : Gl) (ad : Nat → Nat) {k : Nat} {Z : (Nat → va_E) → Prop} {Y : Nat → Int32 → (Nat → va_E) → Prop} {E0 E : Nat → va_E} (hJ : JZ l G ad k Z Y E0 E) (x : Int32) (y : Int32) (z : Int32) : CtV l G yX4_gather cX4_gather 8 3 75 (98 + 9 * k) ad E [.ref (ad 45), .int x, .int y, .ref (ad 6), .int z] (fun E' => JZ l G ad k Z Y E0 E') := by
  refine CtV.of (by decide) (Nat.le_of_ble_eq_true rfl) (fun X A C => ?_)
  refine v_sub (lv' := [(0, .ref (ad 45)), (1, .int x), (2, .int y), (3, .ref (ad 6)), (4, .int z)]) [0, 1, 2, 3, 4] rfl ?_
  have hk5 := hJ.1.1
  refine v_aload_n C 0 dX4_gather_0 rfl rfl ?_
  obtain ⟨i1, hE1, hb1⟩ := hJ.1.2.2.getO (b := 45) (by omega) rfl
  refine v_geti (v := i1 5) C 45 dX4_gather_1 fX4_19 (by omega) hE1 rfl rfl ?_
  have hi1_5 : (0 : Int) ≤ (i1 5).toInt ∧ (i1 5).toInt ≤ 1 := hb1 5
  refine b_if_eq C 24 dX4_gather_4 (by decide) (rfl : Int32.toInt (i1 5) = _) (fun c2 => ?_) (fun c2 => ?_)
  · refine v_aload_n C 0 dX4_gather_24 rfl rfl ?_
    refine v_iconst (v := 1) C dX4_gather_25 (by decide) ?_
    refine v_puti C 45 dX4_gather_26 fX4_19 (by omega) hE1 rfl rfl rfl rfl (fun E3 hE3_45 oE3 => ?_)
    obtain ⟨hJ4, hb5⟩ := hJ.1.2.2.setO rfl (by unfold P8; omega) hb1 (k := 5) (show (0 : Int) ≤ Int32.toInt 1 ∧ Int32.toInt 1 ≤ 1 by decide) hE3_45 oE3
    have hJ4 := hJ.with hJ4 (fun j hj => oE3 j (by omega))
    refine v_aload_n C 0 dX4_gather_29 rfl rfl ?_
    refine v_iload_n C 1 dX4_gather_30 rfl rfl ?_
    refine v_puti C 45 dX4_gather_31 fX4_23 (by omega) hE3_45 rfl rfl rfl rfl (fun E6 hE6_45 oE6 => ?_)
    obtain ⟨hJ7, hb8⟩ := hJ4.1.2.2.setO rfl (by unfold P8; omega) hb5 (k := 3) (ti_any x) hE6_45 oE6
    have hJ7 := hJ4.with hJ7 (fun j hj => oE6 j (by omega))
    refine v_aload_n C 0 dX4_gather_34 rfl rfl ?_
    refine v_iload_n C 2 dX4_gather_35 rfl rfl ?_
    refine v_puti C 45 dX4_gather_36 fX4_27 (by omega) hE6_45 rfl rfl rfl rfl (fun E9 hE9_45 oE9 => ?_)
    obtain ⟨hJ10, hb11⟩ := hJ7.1.2.2.setO rfl (by unfold P8; omega) hb8 (k := 4) (ti_any y) hE9_45 oE9
    have hJ10 := hJ7.with hJ10 (fun j hj => oE9 j (by omega))
    refine v_iload_n C 2 dX4_gather_39 rfl rfl ?_
    refine v_iload_n C 1 dX4_gather_40 rfl rfl ?_
    refine v_isub C dX4_gather_41 ?_
    refine v_top (fun x12 _ => ?_)
    refine v_bipush (v := 64) C dX4_gather_42 (by decide) ?_
    refine v_idiv C dX4_gather_44 (by decide) ?_
    refine v_top (fun x13 ex13 => ?_)
    have hx13 : (-33554432 : Int) ≤ x13.toInt ∧ x13.toInt ≤ 33554432 := by rw [ex13]; exact ti_tdb (show (64 : Int32).toInt = 64 by decide) (by decide)
    refine v_iconst (v := 1) C dX4_gather_45 (by decide) ?_
    refine v_iadd C dX4_gather_46 ?_
    refine v_top (fun x14 ex14 => ?_)
    have hx14 : x14.toInt = (x13.toInt + 1) := by rw [ex14]; exact ti_add (rfl : Int32.toInt x13 = _) (show (1 : Int32).toInt = 1 by decide) (by omega) (by omega)
    refine v_aload_n C 0 dX4_gather_47 rfl rfl ?_
    refine v_getr C 45 dX4_gather_48 fX4_9 (by omega) hE9_45 rfl rfl ?_
    obtain ⟨f15, hE15⟩ := hJ10.1.2.2.getL (b := 46) (by omega) rfl
    refine v_alenJ (v := 31251) C 46 dX4_gather_51 (by omega) hE15 (by decide) ?_
    refine v_mmin C dX4_gather_52 lX4_30 mJ9_min_7cf53.2.2.1 mJ9_min_7cf53.2.1 mJ9_min_7cf53.1 ⟨by decide, Nat.le_of_ble_eq_true rfl⟩ ⟨Nat.zero_le _, Nat.zero_le _⟩ ?_
    refine v_top (fun x16 ex16 => ?_)
    have hx16 : x16.toInt ≤ (x13.toInt + 1) ∧ x16.toInt ≤ 31251 ∧ (x16.toInt = (x13.toInt + 1) ∨ x16.toInt = 31251) := by rw [ex16]; exact mmin_b hx14 (show (31251 : Int32).toInt = 31251 by decide)
    refine v_istore (lv' := [(0, .ref (ad 45)), (1, .int x), (2, .int y), (3, .ref (ad 6)), (4, .int z), (5, .int x16)]) C [1, 2, 3, 4, 5, 0] dX4_gather_55 (by decide) rfl ?_
    refine v_iconst (v := 0) C dX4_gather_57 (by decide) ?_
    refine v_istore (lv' := [(0, .ref (ad 45)), (1, .int x), (2, .int y), (3, .ref (ad 6)), (4, .int z), (5, .int x16), (6, .int 0)]) C [1, 2, 3, 4, 5, 6, 0] dX4_gather_58 (by decide) rfl ?_
    have LP17 : ∀ (t : Nat) (E19 : Nat → va_E) (y18 : Int32), JZ l G ad k Z Y E0 E19 → ((0 : Int) ≤ y18.toInt ∧ y18.toInt ≤ 31251) → 31252 - y18.toInt < (t : Int) → V X G A 8 (QV X G A (98 + 9 * k) ad (fun E' => JZ l G ad k Z Y E0 E')) (98 + 9 * k) ad 0 0 E19 60 [(0, .ref (ad 45)), (1, .int x), (2, .int y), (3, .ref (ad 6)), (4, .int z), (5, .int x16), (6, .int y18)] [] := by
      intro t23
      induction t23 with
      | zero => intro E19 y18 hJ20 hy18 hm22; exfalso; omega
      | succ t23 ih21 =>
        intro E19 y18 hJ20 hy18 hm22
        refine v_iload C 6 dX4_gather_60 rfl ?_
        refine v_iload C 5 dX4_gather_62 rfl ?_
        refine b_icmp_ge C 81 dX4_gather_64 (by decide) (rfl : Int32.toInt y18 = _) (rfl : Int32.toInt x16 = _) (fun c24 => ?_) (fun c24 => ?_)
        · refine v_aload_n C 0 dX4_gather_81 rfl rfl ?_
          refine v_iload_n C 1 dX4_gather_82 rfl rfl ?_
          obtain ⟨i29, hE29, hb29⟩ := hJ20.1.2.2.getO (b := 45) (by omega) rfl
          refine v_cVv C dX4_gather_83 lX4_36 mX4_mark 45 (by omega) hE29 (by decide) rfl (tz_X4_mark l G ad hJ20 x) ⟨by decide, by decide⟩ rfl (Nat.le_of_ble_eq_true rfl) ⟨Nat.zero_le _, Nat.zero_le _⟩ (fun E26 hJ28 => ?_)
          refine v_aload_n C 0 dX4_gather_86 rfl rfl ?_
          refine v_iload_n C 2 dX4_gather_87 rfl rfl ?_
          obtain ⟨i34, hE34, hb34⟩ := hJ28.1.2.2.getO (b := 45) (by omega) rfl
          refine v_cVv C dX4_gather_88 lX4_36 mX4_mark 45 (by omega) hE34 (by decide) rfl (tz_X4_mark l G ad hJ28 y) ⟨by decide, by decide⟩ rfl (Nat.le_of_ble_eq_true rfl) ⟨Nat.zero_le _, Nat.zero_le _⟩ (fun E31 hJ33 => ?_)
          refine v_iconst (v := 0) C dX4_gather_91 (by decide) ?_
          refine v_istore (lv' := [(0, .ref (ad 45)), (1, .int x), (2, .int y), (3, .ref (ad 6)), (4, .int z), (5, .int x16), (6, .int 0)]) C [1, 2, 3, 4, 5, 6, 0] dX4_gather_92 (by decide) rfl ?_
          have LP35 : ∀ (t : Nat) (E38 : Nat → va_E) (y36 : Int32), JZ l G ad k Z Y E0 E38 → ((0 : Int) ≤ y36.toInt ∧ y36.toInt ≤ 5) → (y36.toInt ≤ (k : Int)) → 6 - y36.toInt < (t : Int) → V X G A 8 (QV X G A (98 + 9 * k) ad (fun E' => JZ l G ad k Z Y E0 E')) (98 + 9 * k) ad 0 0 E38 94 [(0, .ref (ad 45)), (3, .ref (ad 6)), (4, .int z), (5, .int x16), (6, .int y36)] [] := by
            intro t42
            induction t42 with
            | zero => intro E38 y36 hJ39 hy36 hq37 hm41; exfalso; omega
            | succ t42 ih40 =>
              intro E38 y36 hJ39 hy36 hq37 hm41
              refine v_iload C 4 dX4_gather_94 rfl ?_
              refine v_aload_n C 1 dX4_gather_96 rfl rfl ?_
              obtain ⟨i43, hE43, hb43⟩ := hJ39.1.2.2.getO (b := 6) (by omega) rfl
              refine v_geti (v := i43 1) C 6 dX4_gather_97 fX4_40 (by omega) hE43 rfl rfl ?_
              have hi43_1 : (k : Int) ≤ (i43 1).toInt ∧ (i43 1).toInt ≤ (k : Int) := hb43 1
              refine b_icmp_ge C 136 dX4_gather_100 (by decide) (rfl : Int32.toInt y36 = _) (rfl : Int32.toInt (i43 1) = _) (fun c44 => ?_) (fun c44 => ?_)
              · refine v_aload_n C 0 dX4_gather_136 rfl rfl ?_
                refine v_iload C 3 dX4_gather_137 rfl ?_
                obtain ⟨i49, hE49, hb49⟩ := hJ39.1.2.2.getO (b := 45) (by omega) rfl
                refine v_cVv C dX4_gather_139 lX4_57 mX4_listMarks 45 (by omega) hE49 (by decide) rfl (tz_X4_listMarks l G ad hJ39 x16 (show (-2147483648 : Int) ≤ Int32.toInt x16 ∧ Int32.toInt x16 ≤ 31251 by have := ti_any x16; omega)) ⟨by decide, by decide⟩ rfl (Nat.le_of_ble_eq_true rfl) ⟨Nat.zero_le _, Nat.zero_le _⟩ (fun E46 hJ48 => ?_)
                exact v_vret C dX4_gather_142 rfl hJ48
              · refine v_aload_n C 1 dX4_gather_103 rfl rfl ?_
                refine v_iload C 4 dX4_gather_104 rfl ?_
                refine v_cVr C dX4_gather_106 lX4_45 mX7_at 6 (by omega) hE43 (by decide) rfl (t_X7_at l G ad hJ39.1 y36) ⟨by decide, by decide⟩ rfl (Nat.le_of_ble_eq_true rfl) ⟨Nat.zero_le _, Nat.zero_le _⟩ (fun r50 hp51 => ?_)
                rcases hp51 with ⟨hno52, rfl⟩ | ⟨i52x, hi52, hk52, rfl⟩
                · refine v_astoreN (lv' := [(0, .ref (ad 45)), (3, .ref (ad 6)), (4, .int z), (5, .int x16), (6, .int y36), (7, .null)]) C [1, 2, 3, 4, 5, 0] dX4_gather_109 (by decide) rfl ?_
                  refine v_aloadN C 5 dX4_gather_111 rfl ?_
                  refine v_ifnullN C 130 dX4_gather_113 (by decide) ?_
                  obtain ⟨x53, ex53⟩ : ∃ y : Int32, y = y36 + 1 := ⟨_, rfl⟩
                  have hx53 : x53.toInt = (y36.toInt + 1) := by rw [ex53]; exact ti_add (rfl : Int32.toInt y36 = _) (show (1 : Int32).toInt = 1 by decide) (by omega) (by omega)
                  refine v_iinc (v := x53) (lv' := [(0, .ref (ad 45)), (3, .ref (ad 6)), (4, .int z), (5, .int x16), (6, .int x53), (7, .null)]) C 4 [1, 2, 3, 4, 0, 5] dX4_gather_130 rfl (ex53.symm) (by decide) rfl ?_
                  refine v_goto C 94 dX4_gather_133 (by decide) ?_
                  refine v_sub (lv' := [(0, .ref (ad 45)), (3, .ref (ad 6)), (4, .int z), (5, .int x16), (6, .int x53)]) [0, 1, 2, 3, 4] rfl ?_
                  exact ih40 _ x53 hJ39 (by have := hx53; omega) (by have := hx53; omega) (by have := hx53; omega)
                · obtain ⟨b52, eb52⟩ : ∃ q : Nat, q = 98 + 9 * i52x := ⟨_, rfl⟩
                  rw [← eb52]
                  have hb52 : ZC k b52 := ⟨_, hk52, eb52⟩
                  have hb52n := hb52.n
                  refine v_astore (lv' := [(0, .ref (ad 45)), (3, .ref (ad 6)), (4, .int z), (5, .int x16), (6, .int y36), (7, .ref (ad b52))]) C [1, 2, 3, 4, 5, 0] dX4_gather_109 (by decide) rfl ?_
                  refine v_aload C 5 dX4_gather_111 rfl ?_
                  refine v_ifnull C dX4_gather_113 ?_
                  refine v_aload_n C 0 dX4_gather_116 rfl rfl ?_
                  refine v_aload C 5 dX4_gather_117 rfl ?_
                  obtain ⟨i58, hE58, hb58⟩ := hJ39.1.2.2.getO (b := 45) (by omega) rfl
                  refine v_cVv C dX4_gather_119 lX4_49 mX4_markChanges 45 (by omega) hE58 (by decide) rfl (tz_X4_markChanges l G ad hJ39 b52 hb52) ⟨by decide, by decide⟩ rfl (Nat.le_of_ble_eq_true rfl) ⟨Nat.zero_le _, Nat.zero_le _⟩ (fun E55 hJ57 => ?_)
                  refine v_aload_n C 0 dX4_gather_122 rfl rfl ?_
                  refine v_aload C 5 dX4_gather_123 rfl ?_
                  refine v_iload C 2 dX4_gather_125 rfl ?_
                  obtain ⟨i63, hE63, hb63⟩ := hJ57.1.2.2.getO (b := 45) (by omega) rfl
                  refine v_cVv C dX4_gather_127 lX4_53 mX4_markDays 45 (by omega) hE63 (by decide) rfl (tz_X4_markDays l G ad hJ57 b52 hb52 z) ⟨by decide, by decide⟩ rfl (Nat.le_of_ble_eq_true rfl) ⟨Nat.zero_le _, Nat.zero_le _⟩ (fun E60 hJ62 => ?_)
                  obtain ⟨x64, ex64⟩ : ∃ y : Int32, y = y36 + 1 := ⟨_, rfl⟩
                  have hx64 : x64.toInt = (y36.toInt + 1) := by rw [ex64]; exact ti_add (rfl : Int32.toInt y36 = _) (show (1 : Int32).toInt = 1 by decide) (by omega) (by omega)
                  refine v_iinc (v := x64) (lv' := [(0, .ref (ad 45)), (3, .ref (ad 6)), (4, .int z), (5, .int x16), (6, .int x64), (7, .ref (ad b52))]) C 4 [1, 2, 3, 4, 0, 5] dX4_gather_130 rfl (ex64.symm) (by decide) rfl ?_
                  refine v_goto C 94 dX4_gather_133 (by decide) ?_
                  refine v_sub (lv' := [(0, .ref (ad 45)), (3, .ref (ad 6)), (4, .int z), (5, .int x16), (6, .int x64)]) [0, 1, 2, 3, 4] rfl ?_
                  exact ih40 _ x64 hJ62 (by have := hx64; omega) (by have := hx64; omega) (by have := hx64; omega)
          refine v_sub (lv' := [(0, .ref (ad 45)), (3, .ref (ad 6)), (4, .int z), (5, .int x16), (6, .int 0)]) [0, 3, 4, 5, 6] rfl ?_
          exact LP35 100000 _ 0 hJ33 (by have := (show (0 : Int32).toInt = 0 by decide); omega) (by have := (show (0 : Int32).toInt = 0 by decide); omega) (by have := (show (0 : Int32).toInt = 0 by decide); omega)
        · refine v_aload_n C 0 dX4_gather_67 rfl rfl ?_
          obtain ⟨i65, hE65, hb65⟩ := hJ20.1.2.2.getO (b := 45) (by omega) rfl
          refine v_getr C 45 dX4_gather_68 fX4_9 (by omega) hE65 rfl rfl ?_
          refine v_iload C 6 dX4_gather_71 rfl ?_
          refine v_lconst (v := 0) C dX4_gather_73 (by decide) ?_
          obtain ⟨f66, hE66⟩ := hJ20.1.2.2.getL (b := 46) (by omega) rfl
          refine v_jast C 46 dX4_gather_74 (by omega) hE66 (ti_in (rfl : Int32.toInt y18 = _) (by omega) (by omega)) (fun E67 hE67_46 oE67 => ?_)
          rw [ti_cl (rfl : Int32.toInt y18 = _)] at hE67_46
          have hE67_45 := (oE67 45 (by decide)).trans hE65
          have hJ68 := hJ20.with (hJ20.1.2.2.setL rfl (by unfold P8; omega) hE67_46 oE67) (fun j hj => oE67 j (by omega))
          obtain ⟨x69, ex69⟩ : ∃ y : Int32, y = y18 + 1 := ⟨_, rfl⟩
          have hx69 : x69.toInt = (y18.toInt + 1) := by rw [ex69]; exact ti_add (rfl : Int32.toInt y18 = _) (show (1 : Int32).toInt = 1 by decide) (by omega) (by omega)
          refine v_iinc (v := x69) (lv' := [(0, .ref (ad 45)), (1, .int x), (2, .int y), (3, .ref (ad 6)), (4, .int z), (5, .int x16), (6, .int x69)]) C 6 [1, 2, 3, 4, 5, 6, 0] dX4_gather_75 rfl (ex69.symm) (by decide) rfl ?_
          refine v_goto C 60 dX4_gather_78 (by decide) ?_
          exact ih21 _ x69 hJ68 (by have := hx69; omega) (by have := hx69; omega)
    exact LP17 100000 _ 0 hJ10 (by have := (show (0 : Int32).toInt = 0 by decide); omega) (by have := (show (0 : Int32).toInt = 0 by decide); omega)
  · refine v_iload_n C 1 dX4_gather_7 rfl rfl ?_
    refine v_aload_n C 0 dX4_gather_8 rfl rfl ?_
    refine v_geti (v := i1 3) C 45 dX4_gather_9 fX4_23 (by omega) hE1 rfl rfl ?_
    refine b_icmp_ne C 24 dX4_gather_12 (by decide) (rfl : Int32.toInt x = _) (rfl : Int32.toInt (i1 3) = _) (fun c70 => ?_) (fun c70 => ?_)
    · refine v_aload_n C 0 dX4_gather_24 rfl rfl ?_
      refine v_iconst (v := 1) C dX4_gather_25 (by decide) ?_
      refine v_puti C 45 dX4_gather_26 fX4_19 (by omega) hE1 rfl rfl rfl rfl (fun E71 hE71_45 oE71 => ?_)
      obtain ⟨hJ72, hb73⟩ := hJ.1.2.2.setO rfl (by unfold P8; omega) hb1 (k := 5) (show (0 : Int) ≤ Int32.toInt 1 ∧ Int32.toInt 1 ≤ 1 by decide) hE71_45 oE71
      have hJ72 := hJ.with hJ72 (fun j hj => oE71 j (by omega))
      refine v_aload_n C 0 dX4_gather_29 rfl rfl ?_
      refine v_iload_n C 1 dX4_gather_30 rfl rfl ?_
      refine v_puti C 45 dX4_gather_31 fX4_23 (by omega) hE71_45 rfl rfl rfl rfl (fun E74 hE74_45 oE74 => ?_)
      obtain ⟨hJ75, hb76⟩ := hJ72.1.2.2.setO rfl (by unfold P8; omega) hb73 (k := 3) (ti_any x) hE74_45 oE74
      have hJ75 := hJ72.with hJ75 (fun j hj => oE74 j (by omega))
      refine v_aload_n C 0 dX4_gather_34 rfl rfl ?_
      refine v_iload_n C 2 dX4_gather_35 rfl rfl ?_
      refine v_puti C 45 dX4_gather_36 fX4_27 (by omega) hE74_45 rfl rfl rfl rfl (fun E77 hE77_45 oE77 => ?_)
      obtain ⟨hJ78, hb79⟩ := hJ75.1.2.2.setO rfl (by unfold P8; omega) hb76 (k := 4) (ti_any y) hE77_45 oE77
      have hJ78 := hJ75.with hJ78 (fun j hj => oE77 j (by omega))
      refine v_iload_n C 2 dX4_gather_39 rfl rfl ?_
      refine v_iload_n C 1 dX4_gather_40 rfl rfl ?_
      refine v_isub C dX4_gather_41 ?_
      refine v_top (fun x80 _ => ?_)
      refine v_bipush (v := 64) C dX4_gather_42 (by decide) ?_
      refine v_idiv C dX4_gather_44 (by decide) ?_
      refine v_top (fun x81 ex81 => ?_)
      have hx81 : (-33554432 : Int) ≤ x81.toInt ∧ x81.toInt ≤ 33554432 := by rw [ex81]; exact ti_tdb (show (64 : Int32).toInt = 64 by decide) (by decide)
      refine v_iconst (v := 1) C dX4_gather_45 (by decide) ?_
      refine v_iadd C dX4_gather_46 ?_
      refine v_top (fun x82 ex82 => ?_)
      have hx82 : x82.toInt = (x81.toInt + 1) := by rw [ex82]; exact ti_add (rfl : Int32.toInt x81 = _) (show (1 : Int32).toInt = 1 by decide) (by omega) (by omega)
      refine v_aload_n C 0 dX4_gather_47 rfl rfl ?_
      refine v_getr C 45 dX4_gather_48 fX4_9 (by omega) hE77_45 rfl rfl ?_
      obtain ⟨f83, hE83⟩ := hJ78.1.2.2.getL (b := 46) (by omega) rfl
      refine v_alenJ (v := 31251) C 46 dX4_gather_51 (by omega) hE83 (by decide) ?_
      refine v_mmin C dX4_gather_52 lX4_30 mJ9_min_7cf53.2.2.1 mJ9_min_7cf53.2.1 mJ9_min_7cf53.1 ⟨by decide, Nat.le_of_ble_eq_true rfl⟩ ⟨Nat.zero_le _, Nat.zero_le _⟩ ?_
      refine v_top (fun x84 ex84 => ?_)
      have hx84 : x84.toInt ≤ (x81.toInt + 1) ∧ x84.toInt ≤ 31251 ∧ (x84.toInt = (x81.toInt + 1) ∨ x84.toInt = 31251) := by rw [ex84]; exact mmin_b hx82 (show (31251 : Int32).toInt = 31251 by decide)
      refine v_istore (lv' := [(0, .ref (ad 45)), (1, .int x), (2, .int y), (3, .ref (ad 6)), (4, .int z), (5, .int x84)]) C [1, 2, 3, 4, 5, 0] dX4_gather_55 (by decide) rfl ?_
      refine v_iconst (v := 0) C dX4_gather_57 (by decide) ?_
      refine v_istore (lv' := [(0, .ref (ad 45)), (1, .int x), (2, .int y), (3, .ref (ad 6)), (4, .int z), (5, .int x84), (6, .int 0)]) C [1, 2, 3, 4, 5, 6, 0] dX4_gather_58 (by decide) rfl ?_
      have LP85 : ∀ (t : Nat) (E87 : Nat → va_E) (y86 : Int32), JZ l G ad k Z Y E0 E87 → ((0 : Int) ≤ y86.toInt ∧ y86.toInt ≤ 31251) → 31252 - y86.toInt < (t : Int) → V X G A 8 (QV X G A (98 + 9 * k) ad (fun E' => JZ l G ad k Z Y E0 E')) (98 + 9 * k) ad 0 0 E87 60 [(0, .ref (ad 45)), (1, .int x), (2, .int y), (3, .ref (ad 6)), (4, .int z), (5, .int x84), (6, .int y86)] [] := by
        intro t91
        induction t91 with
        | zero => intro E87 y86 hJ88 hy86 hm90; exfalso; omega
        | succ t91 ih89 =>
          intro E87 y86 hJ88 hy86 hm90
          refine v_iload C 6 dX4_gather_60 rfl ?_
          refine v_iload C 5 dX4_gather_62 rfl ?_
          refine b_icmp_ge C 81 dX4_gather_64 (by decide) (rfl : Int32.toInt y86 = _) (rfl : Int32.toInt x84 = _) (fun c92 => ?_) (fun c92 => ?_)
          · refine v_aload_n C 0 dX4_gather_81 rfl rfl ?_
            refine v_iload_n C 1 dX4_gather_82 rfl rfl ?_
            obtain ⟨i97, hE97, hb97⟩ := hJ88.1.2.2.getO (b := 45) (by omega) rfl
            refine v_cVv C dX4_gather_83 lX4_36 mX4_mark 45 (by omega) hE97 (by decide) rfl (tz_X4_mark l G ad hJ88 x) ⟨by decide, by decide⟩ rfl (Nat.le_of_ble_eq_true rfl) ⟨Nat.zero_le _, Nat.zero_le _⟩ (fun E94 hJ96 => ?_)
            refine v_aload_n C 0 dX4_gather_86 rfl rfl ?_
            refine v_iload_n C 2 dX4_gather_87 rfl rfl ?_
            obtain ⟨i102, hE102, hb102⟩ := hJ96.1.2.2.getO (b := 45) (by omega) rfl
            refine v_cVv C dX4_gather_88 lX4_36 mX4_mark 45 (by omega) hE102 (by decide) rfl (tz_X4_mark l G ad hJ96 y) ⟨by decide, by decide⟩ rfl (Nat.le_of_ble_eq_true rfl) ⟨Nat.zero_le _, Nat.zero_le _⟩ (fun E99 hJ101 => ?_)
            refine v_iconst (v := 0) C dX4_gather_91 (by decide) ?_
            refine v_istore (lv' := [(0, .ref (ad 45)), (1, .int x), (2, .int y), (3, .ref (ad 6)), (4, .int z), (5, .int x84), (6, .int 0)]) C [1, 2, 3, 4, 5, 6, 0] dX4_gather_92 (by decide) rfl ?_
            have LP103 : ∀ (t : Nat) (E106 : Nat → va_E) (y104 : Int32), JZ l G ad k Z Y E0 E106 → ((0 : Int) ≤ y104.toInt ∧ y104.toInt ≤ 5) → (y104.toInt ≤ (k : Int)) → 6 - y104.toInt < (t : Int) → V X G A 8 (QV X G A (98 + 9 * k) ad (fun E' => JZ l G ad k Z Y E0 E')) (98 + 9 * k) ad 0 0 E106 94 [(0, .ref (ad 45)), (3, .ref (ad 6)), (4, .int z), (5, .int x84), (6, .int y104)] [] := by
              intro t110
              induction t110 with
              | zero => intro E106 y104 hJ107 hy104 hq105 hm109; exfalso; omega
              | succ t110 ih108 =>
                intro E106 y104 hJ107 hy104 hq105 hm109
                refine v_iload C 4 dX4_gather_94 rfl ?_
                refine v_aload_n C 1 dX4_gather_96 rfl rfl ?_
                obtain ⟨i111, hE111, hb111⟩ := hJ107.1.2.2.getO (b := 6) (by omega) rfl
                refine v_geti (v := i111 1) C 6 dX4_gather_97 fX4_40 (by omega) hE111 rfl rfl ?_
                have hi111_1 : (k : Int) ≤ (i111 1).toInt ∧ (i111 1).toInt ≤ (k : Int) := hb111 1
                refine b_icmp_ge C 136 dX4_gather_100 (by decide) (rfl : Int32.toInt y104 = _) (rfl : Int32.toInt (i111 1) = _) (fun c112 => ?_) (fun c112 => ?_)
                · refine v_aload_n C 0 dX4_gather_136 rfl rfl ?_
                  refine v_iload C 3 dX4_gather_137 rfl ?_
                  obtain ⟨i117, hE117, hb117⟩ := hJ107.1.2.2.getO (b := 45) (by omega) rfl
                  refine v_cVv C dX4_gather_139 lX4_57 mX4_listMarks 45 (by omega) hE117 (by decide) rfl (tz_X4_listMarks l G ad hJ107 x84 (show (-2147483648 : Int) ≤ Int32.toInt x84 ∧ Int32.toInt x84 ≤ 31251 by have := ti_any x84; omega)) ⟨by decide, by decide⟩ rfl (Nat.le_of_ble_eq_true rfl) ⟨Nat.zero_le _, Nat.zero_le _⟩ (fun E114 hJ116 => ?_)
                  exact v_vret C dX4_gather_142 rfl hJ116
                · refine v_aload_n C 1 dX4_gather_103 rfl rfl ?_
                  refine v_iload C 4 dX4_gather_104 rfl ?_
                  refine v_cVr C dX4_gather_106 lX4_45 mX7_at 6 (by omega) hE111 (by decide) rfl (t_X7_at l G ad hJ107.1 y104) ⟨by decide, by decide⟩ rfl (Nat.le_of_ble_eq_true rfl) ⟨Nat.zero_le _, Nat.zero_le _⟩ (fun r118 hp119 => ?_)
                  rcases hp119 with ⟨hno120, rfl⟩ | ⟨i120x, hi120, hk120, rfl⟩
                  · refine v_astoreN (lv' := [(0, .ref (ad 45)), (3, .ref (ad 6)), (4, .int z), (5, .int x84), (6, .int y104), (7, .null)]) C [1, 2, 3, 4, 5, 0] dX4_gather_109 (by decide) rfl ?_
                    refine v_aloadN C 5 dX4_gather_111 rfl ?_
                    refine v_ifnullN C 130 dX4_gather_113 (by decide) ?_
                    obtain ⟨x121, ex121⟩ : ∃ y : Int32, y = y104 + 1 := ⟨_, rfl⟩
                    have hx121 : x121.toInt = (y104.toInt + 1) := by rw [ex121]; exact ti_add (rfl : Int32.toInt y104 = _) (show (1 : Int32).toInt = 1 by decide) (by omega) (by omega)
                    refine v_iinc (v := x121) (lv' := [(0, .ref (ad 45)), (3, .ref (ad 6)), (4, .int z), (5, .int x84), (6, .int x121), (7, .null)]) C 4 [1, 2, 3, 4, 0, 5] dX4_gather_130 rfl (ex121.symm) (by decide) rfl ?_
                    refine v_goto C 94 dX4_gather_133 (by decide) ?_
                    refine v_sub (lv' := [(0, .ref (ad 45)), (3, .ref (ad 6)), (4, .int z), (5, .int x84), (6, .int x121)]) [0, 1, 2, 3, 4] rfl ?_
                    exact ih108 _ x121 hJ107 (by have := hx121; omega) (by have := hx121; omega) (by have := hx121; omega)
                  · obtain ⟨b120, eb120⟩ : ∃ q : Nat, q = 98 + 9 * i120x := ⟨_, rfl⟩
                    rw [← eb120]
                    have hb120 : ZC k b120 := ⟨_, hk120, eb120⟩
                    have hb120n := hb120.n
                    refine v_astore (lv' := [(0, .ref (ad 45)), (3, .ref (ad 6)), (4, .int z), (5, .int x84), (6, .int y104), (7, .ref (ad b120))]) C [1, 2, 3, 4, 5, 0] dX4_gather_109 (by decide) rfl ?_
                    refine v_aload C 5 dX4_gather_111 rfl ?_
                    refine v_ifnull C dX4_gather_113 ?_
                    refine v_aload_n C 0 dX4_gather_116 rfl rfl ?_
                    refine v_aload C 5 dX4_gather_117 rfl ?_
                    obtain ⟨i126, hE126, hb126⟩ := hJ107.1.2.2.getO (b := 45) (by omega) rfl
                    refine v_cVv C dX4_gather_119 lX4_49 mX4_markChanges 45 (by omega) hE126 (by decide) rfl (tz_X4_markChanges l G ad hJ107 b120 hb120) ⟨by decide, by decide⟩ rfl (Nat.le_of_ble_eq_true rfl) ⟨Nat.zero_le _, Nat.zero_le _⟩ (fun E123 hJ125 => ?_)
                    refine v_aload_n C 0 dX4_gather_122 rfl rfl ?_
                    refine v_aload C 5 dX4_gather_123 rfl ?_
                    refine v_iload C 2 dX4_gather_125 rfl ?_
                    obtain ⟨i131, hE131, hb131⟩ := hJ125.1.2.2.getO (b := 45) (by omega) rfl
                    refine v_cVv C dX4_gather_127 lX4_53 mX4_markDays 45 (by omega) hE131 (by decide) rfl (tz_X4_markDays l G ad hJ125 b120 hb120 z) ⟨by decide, by decide⟩ rfl (Nat.le_of_ble_eq_true rfl) ⟨Nat.zero_le _, Nat.zero_le _⟩ (fun E128 hJ130 => ?_)
                    obtain ⟨x132, ex132⟩ : ∃ y : Int32, y = y104 + 1 := ⟨_, rfl⟩
                    have hx132 : x132.toInt = (y104.toInt + 1) := by rw [ex132]; exact ti_add (rfl : Int32.toInt y104 = _) (show (1 : Int32).toInt = 1 by decide) (by omega) (by omega)
                    refine v_iinc (v := x132) (lv' := [(0, .ref (ad 45)), (3, .ref (ad 6)), (4, .int z), (5, .int x84), (6, .int x132), (7, .ref (ad b120))]) C 4 [1, 2, 3, 4, 0, 5] dX4_gather_130 rfl (ex132.symm) (by decide) rfl ?_
                    refine v_goto C 94 dX4_gather_133 (by decide) ?_
                    refine v_sub (lv' := [(0, .ref (ad 45)), (3, .ref (ad 6)), (4, .int z), (5, .int x84), (6, .int x132)]) [0, 1, 2, 3, 4] rfl ?_
                    exact ih108 _ x132 hJ130 (by have := hx132; omega) (by have := hx132; omega) (by have := hx132; omega)
            refine v_sub (lv' := [(0, .ref (ad 45)), (3, .ref (ad 6)), (4, .int z), (5, .int x84), (6, .int 0)]) [0, 3, 4, 5, 6] rfl ?_
            exact LP103 100000 _ 0 hJ101 (by have := (show (0 : Int32).toInt = 0 by decide); omega) (by have := (show (0 : Int32).toInt = 0 by decide); omega) (by have := (show (0 : Int32).toInt = 0 by decide); omega)
          · refine v_aload_n C 0 dX4_gather_67 rfl rfl ?_
            obtain ⟨i133, hE133, hb133⟩ := hJ88.1.2.2.getO (b := 45) (by omega) rfl
            refine v_getr C 45 dX4_gather_68 fX4_9 (by omega) hE133 rfl rfl ?_
            refine v_iload C 6 dX4_gather_71 rfl ?_
            refine v_lconst (v := 0) C dX4_gather_73 (by decide) ?_
            obtain ⟨f134, hE134⟩ := hJ88.1.2.2.getL (b := 46) (by omega) rfl
            refine v_jast C 46 dX4_gather_74 (by omega) hE134 (ti_in (rfl : Int32.toInt y86 = _) (by omega) (by omega)) (fun E135 hE135_46 oE135 => ?_)
            rw [ti_cl (rfl : Int32.toInt y86 = _)] at hE135_46
            have hE135_45 := (oE135 45 (by decide)).trans hE133
            have hJ136 := hJ88.with (hJ88.1.2.2.setL rfl (by unfold P8; omega) hE135_46 oE135) (fun j hj => oE135 j (by omega))
            obtain ⟨x137, ex137⟩ : ∃ y : Int32, y = y86 + 1 := ⟨_, rfl⟩
            have hx137 : x137.toInt = (y86.toInt + 1) := by rw [ex137]; exact ti_add (rfl : Int32.toInt y86 = _) (show (1 : Int32).toInt = 1 by decide) (by omega) (by omega)
            refine v_iinc (v := x137) (lv' := [(0, .ref (ad 45)), (1, .int x), (2, .int y), (3, .ref (ad 6)), (4, .int z), (5, .int x84), (6, .int x137)]) C 6 [1, 2, 3, 4, 5, 6, 0] dX4_gather_75 rfl (ex137.symm) (by decide) rfl ?_
            refine v_goto C 60 dX4_gather_78 (by decide) ?_
            exact ih89 _ x137 hJ136 (by have := hx137; omega) (by have := hx137; omega)
      exact LP85 100000 _ 0 hJ78 (by have := (show (0 : Int32).toInt = 0 by decide); omega) (by have := (show (0 : Int32).toInt = 0 by decide); omega)
    · refine v_iload_n C 2 dX4_gather_15 rfl rfl ?_
      refine v_aload_n C 0 dX4_gather_16 rfl rfl ?_
      refine v_geti (v := i1 4) C 45 dX4_gather_17 fX4_27 (by omega) hE1 rfl rfl ?_
      refine b_icmp_ne C 24 dX4_gather_20 (by decide) (rfl : Int32.toInt y = _) (rfl : Int32.toInt (i1 4) = _) (fun c138 => ?_) (fun c138 => ?_)
      · refine v_aload_n C 0 dX4_gather_24 rfl rfl ?_
        refine v_iconst (v := 1) C dX4_gather_25 (by decide) ?_
        refine v_puti C 45 dX4_gather_26 fX4_19 (by omega) hE1 rfl rfl rfl rfl (fun E139 hE139_45 oE139 => ?_)
        obtain ⟨hJ140, hb141⟩ := hJ.1.2.2.setO rfl (by unfold P8; omega) hb1 (k := 5) (show (0 : Int) ≤ Int32.toInt 1 ∧ Int32.toInt 1 ≤ 1 by decide) hE139_45 oE139
        have hJ140 := hJ.with hJ140 (fun j hj => oE139 j (by omega))
        refine v_aload_n C 0 dX4_gather_29 rfl rfl ?_
        refine v_iload_n C 1 dX4_gather_30 rfl rfl ?_
        refine v_puti C 45 dX4_gather_31 fX4_23 (by omega) hE139_45 rfl rfl rfl rfl (fun E142 hE142_45 oE142 => ?_)
        obtain ⟨hJ143, hb144⟩ := hJ140.1.2.2.setO rfl (by unfold P8; omega) hb141 (k := 3) (ti_any x) hE142_45 oE142
        have hJ143 := hJ140.with hJ143 (fun j hj => oE142 j (by omega))
        refine v_aload_n C 0 dX4_gather_34 rfl rfl ?_
        refine v_iload_n C 2 dX4_gather_35 rfl rfl ?_
        refine v_puti C 45 dX4_gather_36 fX4_27 (by omega) hE142_45 rfl rfl rfl rfl (fun E145 hE145_45 oE145 => ?_)
        obtain ⟨hJ146, hb147⟩ := hJ143.1.2.2.setO rfl (by unfold P8; omega) hb144 (k := 4) (ti_any y) hE145_45 oE145
        have hJ146 := hJ143.with hJ146 (fun j hj => oE145 j (by omega))
        refine v_iload_n C 2 dX4_gather_39 rfl rfl ?_
        refine v_iload_n C 1 dX4_gather_40 rfl rfl ?_
        refine v_isub C dX4_gather_41 ?_
        refine v_top (fun x148 _ => ?_)
        refine v_bipush (v := 64) C dX4_gather_42 (by decide) ?_
        refine v_idiv C dX4_gather_44 (by decide) ?_
        refine v_top (fun x149 ex149 => ?_)
        have hx149 : (-33554432 : Int) ≤ x149.toInt ∧ x149.toInt ≤ 33554432 := by rw [ex149]; exact ti_tdb (show (64 : Int32).toInt = 64 by decide) (by decide)
        refine v_iconst (v := 1) C dX4_gather_45 (by decide) ?_
        refine v_iadd C dX4_gather_46 ?_
        refine v_top (fun x150 ex150 => ?_)
        have hx150 : x150.toInt = (x149.toInt + 1) := by rw [ex150]; exact ti_add (rfl : Int32.toInt x149 = _) (show (1 : Int32).toInt = 1 by decide) (by omega) (by omega)
        refine v_aload_n C 0 dX4_gather_47 rfl rfl ?_
        refine v_getr C 45 dX4_gather_48 fX4_9 (by omega) hE145_45 rfl rfl ?_
        obtain ⟨f151, hE151⟩ := hJ146.1.2.2.getL (b := 46) (by omega) rfl
        refine v_alenJ (v := 31251) C 46 dX4_gather_51 (by omega) hE151 (by decide) ?_
        refine v_mmin C dX4_gather_52 lX4_30 mJ9_min_7cf53.2.2.1 mJ9_min_7cf53.2.1 mJ9_min_7cf53.1 ⟨by decide, Nat.le_of_ble_eq_true rfl⟩ ⟨Nat.zero_le _, Nat.zero_le _⟩ ?_
        refine v_top (fun x152 ex152 => ?_)
        have hx152 : x152.toInt ≤ (x149.toInt + 1) ∧ x152.toInt ≤ 31251 ∧ (x152.toInt = (x149.toInt + 1) ∨ x152.toInt = 31251) := by rw [ex152]; exact mmin_b hx150 (show (31251 : Int32).toInt = 31251 by decide)
        refine v_istore (lv' := [(0, .ref (ad 45)), (1, .int x), (2, .int y), (3, .ref (ad 6)), (4, .int z), (5, .int x152)]) C [1, 2, 3, 4, 5, 0] dX4_gather_55 (by decide) rfl ?_
        refine v_iconst (v := 0) C dX4_gather_57 (by decide) ?_
        refine v_istore (lv' := [(0, .ref (ad 45)), (1, .int x), (2, .int y), (3, .ref (ad 6)), (4, .int z), (5, .int x152), (6, .int 0)]) C [1, 2, 3, 4, 5, 6, 0] dX4_gather_58 (by decide) rfl ?_
        have LP153 : ∀ (t : Nat) (E155 : Nat → va_E) (y154 : Int32), JZ l G ad k Z Y E0 E155 → ((0 : Int) ≤ y154.toInt ∧ y154.toInt ≤ 31251) → 31252 - y154.toInt < (t : Int) → V X G A 8 (QV X G A (98 + 9 * k) ad (fun E' => JZ l G ad k Z Y E0 E')) (98 + 9 * k) ad 0 0 E155 60 [(0, .ref (ad 45)), (1, .int x), (2, .int y), (3, .ref (ad 6)), (4, .int z), (5, .int x152), (6, .int y154)] [] := by
          intro t159
          induction t159 with
          | zero => intro E155 y154 hJ156 hy154 hm158; exfalso; omega
          | succ t159 ih157 =>
            intro E155 y154 hJ156 hy154 hm158
            refine v_iload C 6 dX4_gather_60 rfl ?_
            refine v_iload C 5 dX4_gather_62 rfl ?_
            refine b_icmp_ge C 81 dX4_gather_64 (by decide) (rfl : Int32.toInt y154 = _) (rfl : Int32.toInt x152 = _) (fun c160 => ?_) (fun c160 => ?_)
            · refine v_aload_n C 0 dX4_gather_81 rfl rfl ?_
              refine v_iload_n C 1 dX4_gather_82 rfl rfl ?_
              obtain ⟨i165, hE165, hb165⟩ := hJ156.1.2.2.getO (b := 45) (by omega) rfl
              refine v_cVv C dX4_gather_83 lX4_36 mX4_mark 45 (by omega) hE165 (by decide) rfl (tz_X4_mark l G ad hJ156 x) ⟨by decide, by decide⟩ rfl (Nat.le_of_ble_eq_true rfl) ⟨Nat.zero_le _, Nat.zero_le _⟩ (fun E162 hJ164 => ?_)
              refine v_aload_n C 0 dX4_gather_86 rfl rfl ?_
              refine v_iload_n C 2 dX4_gather_87 rfl rfl ?_
              obtain ⟨i170, hE170, hb170⟩ := hJ164.1.2.2.getO (b := 45) (by omega) rfl
              refine v_cVv C dX4_gather_88 lX4_36 mX4_mark 45 (by omega) hE170 (by decide) rfl (tz_X4_mark l G ad hJ164 y) ⟨by decide, by decide⟩ rfl (Nat.le_of_ble_eq_true rfl) ⟨Nat.zero_le _, Nat.zero_le _⟩ (fun E167 hJ169 => ?_)
              refine v_iconst (v := 0) C dX4_gather_91 (by decide) ?_
              refine v_istore (lv' := [(0, .ref (ad 45)), (1, .int x), (2, .int y), (3, .ref (ad 6)), (4, .int z), (5, .int x152), (6, .int 0)]) C [1, 2, 3, 4, 5, 6, 0] dX4_gather_92 (by decide) rfl ?_
              have LP171 : ∀ (t : Nat) (E174 : Nat → va_E) (y172 : Int32), JZ l G ad k Z Y E0 E174 → ((0 : Int) ≤ y172.toInt ∧ y172.toInt ≤ 5) → (y172.toInt ≤ (k : Int)) → 6 - y172.toInt < (t : Int) → V X G A 8 (QV X G A (98 + 9 * k) ad (fun E' => JZ l G ad k Z Y E0 E')) (98 + 9 * k) ad 0 0 E174 94 [(0, .ref (ad 45)), (3, .ref (ad 6)), (4, .int z), (5, .int x152), (6, .int y172)] [] := by
                intro t178
                induction t178 with
                | zero => intro E174 y172 hJ175 hy172 hq173 hm177; exfalso; omega
                | succ t178 ih176 =>
                  intro E174 y172 hJ175 hy172 hq173 hm177
                  refine v_iload C 4 dX4_gather_94 rfl ?_
                  refine v_aload_n C 1 dX4_gather_96 rfl rfl ?_
                  obtain ⟨i179, hE179, hb179⟩ := hJ175.1.2.2.getO (b := 6) (by omega) rfl
                  refine v_geti (v := i179 1) C 6 dX4_gather_97 fX4_40 (by omega) hE179 rfl rfl ?_
                  have hi179_1 : (k : Int) ≤ (i179 1).toInt ∧ (i179 1).toInt ≤ (k : Int) := hb179 1
                  refine b_icmp_ge C 136 dX4_gather_100 (by decide) (rfl : Int32.toInt y172 = _) (rfl : Int32.toInt (i179 1) = _) (fun c180 => ?_) (fun c180 => ?_)
                  · refine v_aload_n C 0 dX4_gather_136 rfl rfl ?_
                    refine v_iload C 3 dX4_gather_137 rfl ?_
                    obtain ⟨i185, hE185, hb185⟩ := hJ175.1.2.2.getO (b := 45) (by omega) rfl
                    refine v_cVv C dX4_gather_139 lX4_57 mX4_listMarks 45 (by omega) hE185 (by decide) rfl (tz_X4_listMarks l G ad hJ175 x152 (show (-2147483648 : Int) ≤ Int32.toInt x152 ∧ Int32.toInt x152 ≤ 31251 by have := ti_any x152; omega)) ⟨by decide, by decide⟩ rfl (Nat.le_of_ble_eq_true rfl) ⟨Nat.zero_le _, Nat.zero_le _⟩ (fun E182 hJ184 => ?_)
                    exact v_vret C dX4_gather_142 rfl hJ184
                  · refine v_aload_n C 1 dX4_gather_103 rfl rfl ?_
                    refine v_iload C 4 dX4_gather_104 rfl ?_
                    refine v_cVr C dX4_gather_106 lX4_45 mX7_at 6 (by omega) hE179 (by decide) rfl (t_X7_at l G ad hJ175.1 y172) ⟨by decide, by decide⟩ rfl (Nat.le_of_ble_eq_true rfl) ⟨Nat.zero_le _, Nat.zero_le _⟩ (fun r186 hp187 => ?_)
                    rcases hp187 with ⟨hno188, rfl⟩ | ⟨i188x, hi188, hk188, rfl⟩
                    · refine v_astoreN (lv' := [(0, .ref (ad 45)), (3, .ref (ad 6)), (4, .int z), (5, .int x152), (6, .int y172), (7, .null)]) C [1, 2, 3, 4, 5, 0] dX4_gather_109 (by decide) rfl ?_
                      refine v_aloadN C 5 dX4_gather_111 rfl ?_
                      refine v_ifnullN C 130 dX4_gather_113 (by decide) ?_
                      obtain ⟨x189, ex189⟩ : ∃ y : Int32, y = y172 + 1 := ⟨_, rfl⟩
                      have hx189 : x189.toInt = (y172.toInt + 1) := by rw [ex189]; exact ti_add (rfl : Int32.toInt y172 = _) (show (1 : Int32).toInt = 1 by decide) (by omega) (by omega)
                      refine v_iinc (v := x189) (lv' := [(0, .ref (ad 45)), (3, .ref (ad 6)), (4, .int z), (5, .int x152), (6, .int x189), (7, .null)]) C 4 [1, 2, 3, 4, 0, 5] dX4_gather_130 rfl (ex189.symm) (by decide) rfl ?_
                      refine v_goto C 94 dX4_gather_133 (by decide) ?_
                      refine v_sub (lv' := [(0, .ref (ad 45)), (3, .ref (ad 6)), (4, .int z), (5, .int x152), (6, .int x189)]) [0, 1, 2, 3, 4] rfl ?_
                      exact ih176 _ x189 hJ175 (by have := hx189; omega) (by have := hx189; omega) (by have := hx189; omega)
                    · obtain ⟨b188, eb188⟩ : ∃ q : Nat, q = 98 + 9 * i188x := ⟨_, rfl⟩
                      rw [← eb188]
                      have hb188 : ZC k b188 := ⟨_, hk188, eb188⟩
                      have hb188n := hb188.n
                      refine v_astore (lv' := [(0, .ref (ad 45)), (3, .ref (ad 6)), (4, .int z), (5, .int x152), (6, .int y172), (7, .ref (ad b188))]) C [1, 2, 3, 4, 5, 0] dX4_gather_109 (by decide) rfl ?_
                      refine v_aload C 5 dX4_gather_111 rfl ?_
                      refine v_ifnull C dX4_gather_113 ?_
                      refine v_aload_n C 0 dX4_gather_116 rfl rfl ?_
                      refine v_aload C 5 dX4_gather_117 rfl ?_
                      obtain ⟨i194, hE194, hb194⟩ := hJ175.1.2.2.getO (b := 45) (by omega) rfl
                      refine v_cVv C dX4_gather_119 lX4_49 mX4_markChanges 45 (by omega) hE194 (by decide) rfl (tz_X4_markChanges l G ad hJ175 b188 hb188) ⟨by decide, by decide⟩ rfl (Nat.le_of_ble_eq_true rfl) ⟨Nat.zero_le _, Nat.zero_le _⟩ (fun E191 hJ193 => ?_)
                      refine v_aload_n C 0 dX4_gather_122 rfl rfl ?_
                      refine v_aload C 5 dX4_gather_123 rfl ?_
                      refine v_iload C 2 dX4_gather_125 rfl ?_
                      obtain ⟨i199, hE199, hb199⟩ := hJ193.1.2.2.getO (b := 45) (by omega) rfl
                      refine v_cVv C dX4_gather_127 lX4_53 mX4_markDays 45 (by omega) hE199 (by decide) rfl (tz_X4_markDays l G ad hJ193 b188 hb188 z) ⟨by decide, by decide⟩ rfl (Nat.le_of_ble_eq_true rfl) ⟨Nat.zero_le _, Nat.zero_le _⟩ (fun E196 hJ198 => ?_)
                      obtain ⟨x200, ex200⟩ : ∃ y : Int32, y = y172 + 1 := ⟨_, rfl⟩
                      have hx200 : x200.toInt = (y172.toInt + 1) := by rw [ex200]; exact ti_add (rfl : Int32.toInt y172 = _) (show (1 : Int32).toInt = 1 by decide) (by omega) (by omega)
                      refine v_iinc (v := x200) (lv' := [(0, .ref (ad 45)), (3, .ref (ad 6)), (4, .int z), (5, .int x152), (6, .int x200), (7, .ref (ad b188))]) C 4 [1, 2, 3, 4, 0, 5] dX4_gather_130 rfl (ex200.symm) (by decide) rfl ?_
                      refine v_goto C 94 dX4_gather_133 (by decide) ?_
                      refine v_sub (lv' := [(0, .ref (ad 45)), (3, .ref (ad 6)), (4, .int z), (5, .int x152), (6, .int x200)]) [0, 1, 2, 3, 4] rfl ?_
                      exact ih176 _ x200 hJ198 (by have := hx200; omega) (by have := hx200; omega) (by have := hx200; omega)
              refine v_sub (lv' := [(0, .ref (ad 45)), (3, .ref (ad 6)), (4, .int z), (5, .int x152), (6, .int 0)]) [0, 3, 4, 5, 6] rfl ?_
              exact LP171 100000 _ 0 hJ169 (by have := (show (0 : Int32).toInt = 0 by decide); omega) (by have := (show (0 : Int32).toInt = 0 by decide); omega) (by have := (show (0 : Int32).toInt = 0 by decide); omega)
            · refine v_aload_n C 0 dX4_gather_67 rfl rfl ?_
              obtain ⟨i201, hE201, hb201⟩ := hJ156.1.2.2.getO (b := 45) (by omega) rfl
              refine v_getr C 45 dX4_gather_68 fX4_9 (by omega) hE201 rfl rfl ?_
              refine v_iload C 6 dX4_gather_71 rfl ?_
              refine v_lconst (v := 0) C dX4_gather_73 (by decide) ?_
              obtain ⟨f202, hE202⟩ := hJ156.1.2.2.getL (b := 46) (by omega) rfl
              refine v_jast C 46 dX4_gather_74 (by omega) hE202 (ti_in (rfl : Int32.toInt y154 = _) (by omega) (by omega)) (fun E203 hE203_46 oE203 => ?_)
              rw [ti_cl (rfl : Int32.toInt y154 = _)] at hE203_46
              have hE203_45 := (oE203 45 (by decide)).trans hE201
              have hJ204 := hJ156.with (hJ156.1.2.2.setL rfl (by unfold P8; omega) hE203_46 oE203) (fun j hj => oE203 j (by omega))
              obtain ⟨x205, ex205⟩ : ∃ y : Int32, y = y154 + 1 := ⟨_, rfl⟩
              have hx205 : x205.toInt = (y154.toInt + 1) := by rw [ex205]; exact ti_add (rfl : Int32.toInt y154 = _) (show (1 : Int32).toInt = 1 by decide) (by omega) (by omega)
              refine v_iinc (v := x205) (lv' := [(0, .ref (ad 45)), (1, .int x), (2, .int y), (3, .ref (ad 6)), (4, .int z), (5, .int x152), (6, .int x205)]) C 6 [1, 2, 3, 4, 5, 6, 0] dX4_gather_75 rfl (ex205.symm) (by decide) rfl ?_
              refine v_goto C 60 dX4_gather_78 (by decide) ?_
              exact ih157 _ x205 hJ204 (by have := hx205; omega) (by have := hx205; omega)
        exact LP153 100000 _ 0 hJ146 (by have := (show (0 : Int32).toInt = 0 by decide); omega) (by have := (show (0 : Int32).toInt = 0 by decide); omega)
      · exact v_vret C dX4_gather_23 rfl hJ

set_option maxRecDepth 20000 in
theorem tz_X2_answerOf (l : Launch) (G : Gl) (ad : Nat → Nat) {k : Nat} {Z : (Nat → va_E) → Prop} {Y : Nat → Int32 → (Nat → va_E) → Prop} {E0 E : Nat → va_E} (hJ : JZ l G ad k Z Y E0 E) (c : Nat) (hc : PC c) (x : Int32) : CtI l G yX2_answerOf cX2_answerOf 8 .int 4 97 (98 + 9 * k) ad E [.ref (ad 49), .ref (ad c), .int x] (fun r E' => ((-2147483648 : Int) ≤ r.toInt ∧ r.toInt ≤ 2147483647) ∧ JZ l G ad k Z Y E0 E') := by
  refine CtI.of (by decide) (Nat.le_of_ble_eq_true rfl) (fun X A C => ?_)
  refine v_sub (lv' := [(0, .ref (ad 49)), (1, .ref (ad c)), (2, .int x)]) [0, 1, 2] rfl ?_
  have hk5 := hJ.1.1
  have hcn := hc.n
  refine v_iconst (v := 0) C dX2_answerOf_0 (by decide) ?_
  refine v_istore_n (lv' := [(0, .ref (ad 49)), (1, .ref (ad c)), (2, .int x), (3, .int 0)]) C [1, 2, 3, 0] dX2_answerOf_1 rfl (by decide) rfl ?_
  refine v_iconst (v := 0) C dX2_answerOf_2 (by decide) ?_
  refine v_istore (lv' := [(0, .ref (ad 49)), (1, .ref (ad c)), (2, .int x), (3, .int 0), (4, .int 0)]) C [1, 2, 3, 4, 0] dX2_answerOf_3 (by decide) rfl ?_
  have LP1 : ∀ (t : Nat) (E5 : Nat → va_E) (y2 : Int32) (y3 : Int32) (y4 : Int32), JZ l G ad k Z Y E0 E5 → ((0 : Int) ≤ y3.toInt ∧ y3.toInt ≤ 8) → ((0 : Int) ≤ y4.toInt ∧ y4.toInt ≤ 10) → 11 - y4.toInt < (t : Int) → V X G A 8 (QI X G A (98 + 9 * k) ad (fun r E' => ((-2147483648 : Int) ≤ r.toInt ∧ r.toInt ≤ 2147483647) ∧ JZ l G ad k Z Y E0 E')) (98 + 9 * k) ad 0 0 E5 5 [(0, .ref (ad 49)), (1, .ref (ad c)), (2, .int y2), (3, .int y3), (4, .int y4)] [] := by
    intro t9
    induction t9 with
    | zero => intro E5 y2 y3 y4 hJ6 hy3 hy4 hm8; exfalso; omega
    | succ t9 ih7 =>
      intro E5 y2 y3 y4 hJ6 hy3 hy4 hm8
      refine v_iload C 4 dX2_answerOf_5 rfl ?_
      refine v_aload_n C 1 dX2_answerOf_7 rfl rfl ?_
      obtain ⟨i10, hE10, hb10⟩ := hJ6.1.2.2.getO (b := c) (by omega) (hc.t0 k)
      refine v_geti (v := i10 6) C c dX2_answerOf_8 fX2_23 (by omega) hE10 rfl rfl ?_
      have hi10_6 : (0 : Int) ≤ (i10 6).toInt ∧ (i10 6).toInt ≤ 10 := hb10 6
      refine b_icmp_ge C 276 dX2_answerOf_11 (by decide) (rfl : Int32.toInt y4 = _) (rfl : Int32.toInt (i10 6) = _) (fun c11 => ?_) (fun c11 => ?_)
      · refine v_iload_n C 3 dX2_answerOf_276 rfl rfl ?_
        refine v_iconst (v := 1) C dX2_answerOf_277 (by decide) ?_
        refine b_icmp_ne C 290 dX2_answerOf_278 (by decide) (rfl : Int32.toInt y3 = _) (show (1 : Int32).toInt = 1 by decide) (fun c12 => ?_) (fun c12 => ?_)
        · refine v_ldc C dX2_answerOf_290 kX2_32 ?_
          exact v_ret C dX2_answerOf_292 rfl rfl ⟨(ti_any (-2000000000)), hJ6⟩
        · refine v_aload_n C 0 dX2_answerOf_281 rfl rfl ?_
          obtain ⟨i13, hE13, hb13⟩ := hJ6.1.2.2.getO (b := 49) (by omega) rfl
          refine v_getr C 49 dX2_answerOf_282 fX2_9 (by omega) hE13 rfl rfl ?_
          refine v_iconst (v := 0) C dX2_answerOf_285 (by decide) ?_
          obtain ⟨f14, hE14, hb14⟩ := hJ6.1.2.2.getA (b := 50) (by omega) rfl
          refine v_ald (v := f14 0) C 50 dX2_answerOf_286 (by omega) hE14 (ti_in (show (0 : Int32).toInt = 0 by decide) (by omega) (by omega)) (congrArg f14 (by decide)) ?_
          refine v_top (fun x15 _ => ?_)
          refine v_goto C 292 dX2_answerOf_287 (by decide) ?_
          exact v_ret C dX2_answerOf_292 rfl rfl ⟨(ti_any x15), hJ6⟩
      · refine v_aload_n C 1 dX2_answerOf_14 rfl rfl ?_
        refine v_getr C c dX2_answerOf_15 fX2_29 (by omega) hE10 rfl rfl ?_
        refine v_iload C 4 dX2_answerOf_18 rfl ?_
        obtain ⟨f16, hE16, hb16⟩ := hJ6.1.2.2.getA (b := (c + 1)) (by omega) (hc.t1 k)
        refine v_ald (v := f16 (y4.toInt).toNat) C (c + 1) dX2_answerOf_20 (by omega) hE16 (ti_in (rfl : Int32.toInt y4 = _) (by omega) (by omega)) (by rw [ti_cl (rfl : Int32.toInt y4 = _)]) ?_
        refine v_top (fun x17 _ => ?_)
        refine v_istore (lv' := [(0, .ref (ad 49)), (1, .ref (ad c)), (2, .int y2), (3, .int y3), (4, .int y4), (5, .int x17)]) C [1, 2, 3, 4, 5, 0] dX2_answerOf_21 (by decide) rfl ?_
        have JN18 : ∀ (E22 : Nat → va_E) (y19 : Int32), JZ l G ad k Z Y E0 E22 → ((0 : Int) ≤ y19.toInt ∧ y19.toInt ≤ 2) → (y19.toInt = 0 → x17.toInt = 0) → (x17.toInt = 11 → y19.toInt = 2) → V X G A 8 (QI X G A (98 + 9 * k) ad (fun r E' => ((-2147483648 : Int) ≤ r.toInt ∧ r.toInt ≤ 2147483647) ∧ JZ l G ad k Z Y E0 E')) (98 + 9 * k) ad 0 0 E22 58 [(0, .ref (ad 49)), (1, .ref (ad c)), (2, .int y2), (3, .int y3), (4, .int y4), (5, .int x17)] [.int y19] := by
          intro E22 y19 hJ23 hy19 hq20 hq21
          refine v_istore (lv' := [(0, .ref (ad 49)), (1, .ref (ad c)), (2, .int y2), (3, .int y3), (4, .int y4), (5, .int x17), (6, .int y19)]) C [1, 2, 3, 4, 5, 6, 0] dX2_answerOf_58 (by decide) rfl ?_
          have JN24 : ∀ (E27 : Nat → va_E) , JZ l G ad k Z Y E0 E27 → (y3.toInt < 8 ∨ (x17.toInt ≠ 0 ∧ x17.toInt ≠ 10)) → (y19.toInt ≤ y3.toInt) → V X G A 8 (QI X G A (98 + 9 * k) ad (fun r E' => ((-2147483648 : Int) ≤ r.toInt ∧ r.toInt ≤ 2147483647) ∧ JZ l G ad k Z Y E0 E')) (98 + 9 * k) ad 0 0 E27 87 [(0, .ref (ad 49)), (1, .ref (ad c)), (2, .int y2), (3, .int y3), (4, .int y4), (5, .int x17), (6, .int y19)] [] := by
            intro E27  hJ28 hq25 hq26
            refine v_iload C 5 dX2_answerOf_87 rfl ?_
            refine b_if_ne C 105 dX2_answerOf_89 (by decide) (rfl : Int32.toInt x17 = _) (fun c29 => ?_) (fun c29 => ?_)
            · refine v_iload C 5 dX2_answerOf_105 rfl ?_
              refine v_bipush (v := 10) C dX2_answerOf_107 (by decide) ?_
              refine b_icmp_ne C 132 dX2_answerOf_109 (by decide) (rfl : Int32.toInt x17 = _) (show (10 : Int32).toInt = 10 by decide) (fun c30 => ?_) (fun c30 => ?_)
              · refine v_iload C 5 dX2_answerOf_132 rfl ?_
                refine v_bipush (v := 11) C dX2_answerOf_134 (by decide) ?_
                refine b_icmp_ne C 178 dX2_answerOf_136 (by decide) (rfl : Int32.toInt x17 = _) (show (11 : Int32).toInt = 11 by decide) (fun c31 => ?_) (fun c31 => ?_)
                · have JN32 : ∀ (E34 : Nat → va_E) (y33 : Int32), JZ l G ad k Z Y E0 E34 → V X G A 8 (QI X G A (98 + 9 * k) ad (fun r E' => ((-2147483648 : Int) ≤ r.toInt ∧ r.toInt ≤ 2147483647) ∧ JZ l G ad k Z Y E0 E')) (98 + 9 * k) ad 0 0 E34 225 [(0, .ref (ad 49)), (1, .ref (ad c)), (2, .int y2), (3, .int y3), (4, .int y4), (5, .int x17), (6, .int y19)] [.int y33] := by
                    intro E34 y33 hJ35
                    refine v_istore (lv' := [(0, .ref (ad 49)), (1, .ref (ad c)), (2, .int y2), (3, .int y3), (4, .int y4), (5, .int x17), (6, .int y19), (7, .int y33)]) C [1, 2, 3, 4, 5, 6, 7, 0] dX2_answerOf_225 (by decide) rfl ?_
                    refine v_aload_n C 0 dX2_answerOf_227 rfl rfl ?_
                    refine v_aload_n C 1 dX2_answerOf_228 rfl rfl ?_
                    obtain ⟨i36, hE36, hb36⟩ := hJ35.1.2.2.getO (b := c) (by omega) (hc.t0 k)
                    refine v_getr C c dX2_answerOf_229 fX2_41 (by omega) hE36 rfl rfl ?_
                    refine v_iload C 4 dX2_answerOf_232 rfl ?_
                    obtain ⟨f37, hE37, hb37⟩ := hJ35.1.2.2.getA (b := (c + 4)) (by omega) (hc.t4 k)
                    refine v_ald (v := f37 (y4.toInt).toNat) C (c + 4) dX2_answerOf_234 (by omega) hE37 (ti_in (rfl : Int32.toInt y4 = _) (by omega) (by omega)) (by rw [ti_cl (rfl : Int32.toInt y4 = _)]) ?_
                    refine v_top (fun x38 _ => ?_)
                    refine v_iload C 7 dX2_answerOf_235 rfl ?_
                    obtain ⟨i41, hE41, hb41⟩ := hJ35.1.2.2.getO (b := 49) (by omega) rfl
                    refine v_cVp C dX2_answerOf_237 lX2_44 mX2_isWithin 49 (by omega) hE41 (by decide) rfl (t_X2_isWithin l G ad hJ35.1 x38 y33) ⟨by decide, by decide⟩ rfl (Nat.le_of_ble_eq_true rfl) ⟨Nat.zero_le _, Nat.zero_le _⟩ (fun r39 hp40 => ?_)
                    rcases hp40 with rfl | rfl
                    · refine b_if_ne C 246 dX2_answerOf_240 (by decide) (show (0 : Int32).toInt = 0 by decide) (fun c42 => absurd c42 (by decide)) (fun c42 => ?_)
                      refine v_ldc C dX2_answerOf_243 kX2_32 ?_
                      exact v_ret C dX2_answerOf_245 rfl rfl ⟨(ti_any (-2000000000)), hJ35⟩
                    · refine b_if_ne C 246 dX2_answerOf_240 (by decide) (show (1 : Int32).toInt = 1 by decide) (fun c43 => ?_) (fun c43 => absurd c43 (by decide))
                      refine v_iload C 6 dX2_answerOf_246 rfl ?_
                      refine v_iconst (v := 2) C dX2_answerOf_248 (by decide) ?_
                      refine b_icmp_ne C 258 dX2_answerOf_249 (by decide) (rfl : Int32.toInt y19 = _) (show (2 : Int32).toInt = 2 by decide) (fun c44 => ?_) (fun c44 => ?_)
                      · refine v_iload_n C 3 dX2_answerOf_258 rfl rfl ?_
                        refine v_istore_n (lv' := [(0, .ref (ad 49)), (1, .ref (ad c)), (2, .int y2), (3, .int y3), (4, .int y4), (5, .int x17), (6, .int y19), (7, .int y33)]) C [1, 2, 3, 0, 4, 5, 6, 7] dX2_answerOf_259 rfl (by decide) rfl ?_
                        refine v_aload_n C 0 dX2_answerOf_260 rfl rfl ?_
                        refine v_getr C 49 dX2_answerOf_261 fX2_9 (by omega) hE41 rfl rfl ?_
                        refine v_iload_n C 3 dX2_answerOf_264 rfl rfl ?_
                        refine v_iconst (v := 1) C dX2_answerOf_265 (by decide) ?_
                        refine v_isub C dX2_answerOf_266 ?_
                        refine v_top (fun x45 ex45 => ?_)
                        have hx45 : x45.toInt = (y3.toInt - 1) := by rw [ex45]; exact ti_sub (rfl : Int32.toInt y3 = _) (show (1 : Int32).toInt = 1 by decide) (by omega) (by omega)
                        refine v_iload C 7 dX2_answerOf_267 rfl ?_
                        obtain ⟨f46, hE46, hb46⟩ := hJ35.1.2.2.getA (b := 50) (by omega) rfl
                        refine v_ast C 50 dX2_answerOf_269 (by omega) hE46 (ti_in hx45 (by omega) (by omega)) (fun E47 hE47_50 oE47 => ?_)
                        rw [ti_cl hx45] at hE47_50
                        have hE47_c := (oE47 c (by omega)).trans hE36
                        have hE47_c4 := (oE47 (c + 4) (by omega)).trans hE37
                        have hE47_49 := (oE47 49 (by decide)).trans hE41
                        have hJ48 := hJ35.with (hJ35.1.2.2.setA rfl (by unfold P8; omega) hb46 (ti_any y33) hE47_50 oE47) (fun j hj => oE47 j (by omega))
                        obtain ⟨x49, ex49⟩ : ∃ y : Int32, y = y4 + 1 := ⟨_, rfl⟩
                        have hx49 : x49.toInt = (y4.toInt + 1) := by rw [ex49]; exact ti_add (rfl : Int32.toInt y4 = _) (show (1 : Int32).toInt = 1 by decide) (by omega) (by omega)
                        refine v_iinc (v := x49) (lv' := [(0, .ref (ad 49)), (1, .ref (ad c)), (2, .int y2), (3, .int y3), (4, .int x49), (5, .int x17), (6, .int y19), (7, .int y33)]) C 4 [1, 2, 3, 4, 0, 5, 6, 7] dX2_answerOf_270 rfl (ex49.symm) (by decide) rfl ?_
                        refine v_goto C 5 dX2_answerOf_273 (by decide) ?_
                        refine v_sub (lv' := [(0, .ref (ad 49)), (1, .ref (ad c)), (2, .int y2), (3, .int y3), (4, .int x49)]) [0, 1, 2, 3, 4] rfl ?_
                        exact ih7 _ y2 y3 x49 hJ48 (by have := ti_any y2; have := hx49; omega) (by have := ti_any y2; have := hx49; omega) (by have := ti_any y2; have := hx49; omega)
                      · refine v_iload_n C 3 dX2_answerOf_252 rfl rfl ?_
                        refine v_iconst (v := 1) C dX2_answerOf_253 (by decide) ?_
                        refine v_isub C dX2_answerOf_254 ?_
                        refine v_top (fun x50 ex50 => ?_)
                        have hx50 : x50.toInt = (y3.toInt - 1) := by rw [ex50]; exact ti_sub (rfl : Int32.toInt y3 = _) (show (1 : Int32).toInt = 1 by decide) (by omega) (by omega)
                        refine v_goto C 259 dX2_answerOf_255 (by decide) ?_
                        refine v_istore_n (lv' := [(0, .ref (ad 49)), (1, .ref (ad c)), (2, .int y2), (3, .int x50), (4, .int y4), (5, .int x17), (6, .int y19), (7, .int y33)]) C [1, 2, 3, 0, 4, 5, 6, 7] dX2_answerOf_259 rfl (by decide) rfl ?_
                        refine v_aload_n C 0 dX2_answerOf_260 rfl rfl ?_
                        refine v_getr C 49 dX2_answerOf_261 fX2_9 (by omega) hE41 rfl rfl ?_
                        refine v_iload_n C 3 dX2_answerOf_264 rfl rfl ?_
                        refine v_iconst (v := 1) C dX2_answerOf_265 (by decide) ?_
                        refine v_isub C dX2_answerOf_266 ?_
                        refine v_top (fun x51 ex51 => ?_)
                        have hx51 : x51.toInt = ((y3.toInt - 1) - 1) := by rw [ex51]; exact ti_sub hx50 (show (1 : Int32).toInt = 1 by decide) (by omega) (by omega)
                        refine v_iload C 7 dX2_answerOf_267 rfl ?_
                        obtain ⟨f52, hE52, hb52⟩ := hJ35.1.2.2.getA (b := 50) (by omega) rfl
                        refine v_ast C 50 dX2_answerOf_269 (by omega) hE52 (ti_in hx51 (by omega) (by omega)) (fun E53 hE53_50 oE53 => ?_)
                        rw [ti_cl hx51] at hE53_50
                        have hE53_c := (oE53 c (by omega)).trans hE36
                        have hE53_c4 := (oE53 (c + 4) (by omega)).trans hE37
                        have hE53_49 := (oE53 49 (by decide)).trans hE41
                        have hJ54 := hJ35.with (hJ35.1.2.2.setA rfl (by unfold P8; omega) hb52 (ti_any y33) hE53_50 oE53) (fun j hj => oE53 j (by omega))
                        obtain ⟨x55, ex55⟩ : ∃ y : Int32, y = y4 + 1 := ⟨_, rfl⟩
                        have hx55 : x55.toInt = (y4.toInt + 1) := by rw [ex55]; exact ti_add (rfl : Int32.toInt y4 = _) (show (1 : Int32).toInt = 1 by decide) (by omega) (by omega)
                        refine v_iinc (v := x55) (lv' := [(0, .ref (ad 49)), (1, .ref (ad c)), (2, .int y2), (3, .int x50), (4, .int x55), (5, .int x17), (6, .int y19), (7, .int y33)]) C 4 [1, 2, 3, 4, 0, 5, 6, 7] dX2_answerOf_270 rfl (ex55.symm) (by decide) rfl ?_
                        refine v_goto C 5 dX2_answerOf_273 (by decide) ?_
                        refine v_sub (lv' := [(0, .ref (ad 49)), (1, .ref (ad c)), (2, .int y2), (3, .int x50), (4, .int x55)]) [0, 1, 2, 3, 4] rfl ?_
                        exact ih7 _ y2 x50 x55 hJ54 (by have := ti_any y2; have := hx50; have := hx55; omega) (by have := ti_any y2; have := hx50; have := hx55; omega) (by have := ti_any y2; have := hx50; have := hx55; omega)
                  refine v_iload C 6 dX2_answerOf_178 rfl ?_
                  refine v_iconst (v := 2) C dX2_answerOf_180 (by decide) ?_
                  refine b_icmp_ne C 210 dX2_answerOf_181 (by decide) (rfl : Int32.toInt y19 = _) (show (2 : Int32).toInt = 2 by decide) (fun c56 => ?_) (fun c56 => ?_)
                  · refine v_aload_n C 0 dX2_answerOf_210 rfl rfl ?_
                    refine v_aload_n C 1 dX2_answerOf_211 rfl rfl ?_
                    refine v_iload C 4 dX2_answerOf_212 rfl ?_
                    refine v_aload_n C 0 dX2_answerOf_214 rfl rfl ?_
                    obtain ⟨i57, hE57, hb57⟩ := hJ28.1.2.2.getO (b := 49) (by omega) rfl
                    refine v_getr C 49 dX2_answerOf_215 fX2_9 (by omega) hE57 rfl rfl ?_
                    refine v_iload_n C 3 dX2_answerOf_218 rfl rfl ?_
                    refine v_iconst (v := 1) C dX2_answerOf_219 (by decide) ?_
                    refine v_isub C dX2_answerOf_220 ?_
                    refine v_top (fun x58 ex58 => ?_)
                    have hx58 : x58.toInt = (y3.toInt - 1) := by rw [ex58]; exact ti_sub (rfl : Int32.toInt y3 = _) (show (1 : Int32).toInt = 1 by decide) (by omega) (by omega)
                    obtain ⟨f59, hE59, hb59⟩ := hJ28.1.2.2.getA (b := 50) (by omega) rfl
                    refine v_ald (v := f59 ((y3.toInt - 1)).toNat) C 50 dX2_answerOf_221 (by omega) hE59 (ti_in hx58 (by omega) (by omega)) (by rw [ti_cl hx58]) ?_
                    refine v_top (fun x60 _ => ?_)
                    refine v_cVp C dX2_answerOf_222 lX2_37 mX2_changed 49 (by omega) hE57 (by decide) rfl (t_X2_changed l G ad hJ28.1 c hc y4 (show (0 : Int) ≤ Int32.toInt y4 ∧ Int32.toInt y4 ≤ 9 by omega) x60) ⟨by decide, by decide⟩ rfl (Nat.le_of_ble_eq_true rfl) ⟨Nat.zero_le _, Nat.zero_le _⟩ (fun r61 hp62 => ?_)
                    exact JN32 _ r61 hJ28 
                  · refine v_aload_n C 0 dX2_answerOf_184 rfl rfl ?_
                    refine v_aload_n C 1 dX2_answerOf_185 rfl rfl ?_
                    refine v_iload C 4 dX2_answerOf_186 rfl ?_
                    refine v_aload_n C 0 dX2_answerOf_188 rfl rfl ?_
                    obtain ⟨i63, hE63, hb63⟩ := hJ28.1.2.2.getO (b := 49) (by omega) rfl
                    refine v_getr C 49 dX2_answerOf_189 fX2_9 (by omega) hE63 rfl rfl ?_
                    refine v_iload_n C 3 dX2_answerOf_192 rfl rfl ?_
                    refine v_iconst (v := 2) C dX2_answerOf_193 (by decide) ?_
                    refine v_isub C dX2_answerOf_194 ?_
                    refine v_top (fun x64 ex64 => ?_)
                    have hx64 : x64.toInt = (y3.toInt - 2) := by rw [ex64]; exact ti_sub (rfl : Int32.toInt y3 = _) (show (2 : Int32).toInt = 2 by decide) (by omega) (by omega)
                    obtain ⟨f65, hE65, hb65⟩ := hJ28.1.2.2.getA (b := 50) (by omega) rfl
                    refine v_ald (v := f65 ((y3.toInt - 2)).toNat) C 50 dX2_answerOf_195 (by omega) hE65 (ti_in hx64 (by omega) (by omega)) (by rw [ti_cl hx64]) ?_
                    refine v_top (fun x66 _ => ?_)
                    refine v_aload_n C 0 dX2_answerOf_196 rfl rfl ?_
                    refine v_getr C 49 dX2_answerOf_197 fX2_9 (by omega) hE63 rfl rfl ?_
                    refine v_iload_n C 3 dX2_answerOf_200 rfl rfl ?_
                    refine v_iconst (v := 1) C dX2_answerOf_201 (by decide) ?_
                    refine v_isub C dX2_answerOf_202 ?_
                    refine v_top (fun x67 ex67 => ?_)
                    have hx67 : x67.toInt = (y3.toInt - 1) := by rw [ex67]; exact ti_sub (rfl : Int32.toInt y3 = _) (show (1 : Int32).toInt = 1 by decide) (by omega) (by omega)
                    refine v_ald (v := f65 ((y3.toInt - 1)).toNat) C 50 dX2_answerOf_203 (by omega) hE65 (ti_in hx67 (by omega) (by omega)) (by rw [ti_cl hx67]) ?_
                    refine v_top (fun x68 _ => ?_)
                    refine v_cVp C dX2_answerOf_204 lX2_33 mX2_joined 49 (by omega) hE63 (by decide) rfl (t_X2_joined l G ad hJ28.1 c hc y4 (show (0 : Int) ≤ Int32.toInt y4 ∧ Int32.toInt y4 ≤ 9 by omega) x66 x68) ⟨by decide, by decide⟩ rfl (Nat.le_of_ble_eq_true rfl) ⟨Nat.zero_le _, Nat.zero_le _⟩ (fun r69 hp70 => ?_)
                    refine v_goto C 225 dX2_answerOf_207 (by decide) ?_
                    exact JN32 _ r69 hJ28 
                · refine v_aload_n C 0 dX2_answerOf_139 rfl rfl ?_
                  obtain ⟨i71, hE71, hb71⟩ := hJ28.1.2.2.getO (b := 49) (by omega) rfl
                  refine v_getr C 49 dX2_answerOf_140 fX2_9 (by omega) hE71 rfl rfl ?_
                  refine v_iload_n C 3 dX2_answerOf_143 rfl rfl ?_
                  refine v_iconst (v := 1) C dX2_answerOf_144 (by decide) ?_
                  refine v_isub C dX2_answerOf_145 ?_
                  refine v_top (fun x72 ex72 => ?_)
                  have hx72 : x72.toInt = (y3.toInt - 1) := by rw [ex72]; exact ti_sub (rfl : Int32.toInt y3 = _) (show (1 : Int32).toInt = 1 by decide) (by omega) (by omega)
                  obtain ⟨f73, hE73, hb73⟩ := hJ28.1.2.2.getA (b := 50) (by omega) rfl
                  refine v_ald (v := f73 ((y3.toInt - 1)).toNat) C 50 dX2_answerOf_146 (by omega) hE73 (ti_in hx72 (by omega) (by omega)) (by rw [ti_cl hx72]) ?_
                  refine v_top (fun x74 _ => ?_)
                  refine v_istore (lv' := [(0, .ref (ad 49)), (1, .ref (ad c)), (2, .int y2), (3, .int y3), (4, .int y4), (5, .int x17), (6, .int y19), (7, .int x74)]) C [1, 2, 3, 4, 5, 6, 7, 0] dX2_answerOf_147 (by decide) rfl ?_
                  refine v_aload_n C 0 dX2_answerOf_149 rfl rfl ?_
                  refine v_getr C 49 dX2_answerOf_150 fX2_9 (by omega) hE71 rfl rfl ?_
                  refine v_iload_n C 3 dX2_answerOf_153 rfl rfl ?_
                  refine v_iconst (v := 1) C dX2_answerOf_154 (by decide) ?_
                  refine v_isub C dX2_answerOf_155 ?_
                  refine v_top (fun x75 ex75 => ?_)
                  have hx75 : x75.toInt = (y3.toInt - 1) := by rw [ex75]; exact ti_sub (rfl : Int32.toInt y3 = _) (show (1 : Int32).toInt = 1 by decide) (by omega) (by omega)
                  refine v_aload_n C 0 dX2_answerOf_156 rfl rfl ?_
                  refine v_getr C 49 dX2_answerOf_157 fX2_9 (by omega) hE71 rfl rfl ?_
                  refine v_iload_n C 3 dX2_answerOf_160 rfl rfl ?_
                  refine v_iconst (v := 2) C dX2_answerOf_161 (by decide) ?_
                  refine v_isub C dX2_answerOf_162 ?_
                  refine v_top (fun x76 ex76 => ?_)
                  have hx76 : x76.toInt = (y3.toInt - 2) := by rw [ex76]; exact ti_sub (rfl : Int32.toInt y3 = _) (show (2 : Int32).toInt = 2 by decide) (by omega) (by omega)
                  refine v_ald (v := f73 ((y3.toInt - 2)).toNat) C 50 dX2_answerOf_163 (by omega) hE73 (ti_in hx76 (by omega) (by omega)) (by rw [ti_cl hx76]) ?_
                  refine v_top (fun x77 _ => ?_)
                  refine v_ast C 50 dX2_answerOf_164 (by omega) hE73 (ti_in hx75 (by omega) (by omega)) (fun E78 hE78_50 oE78 => ?_)
                  rw [ti_cl hx75] at hE78_50
                  have hE78_49 := (oE78 49 (by decide)).trans hE71
                  have hJ79 := hJ28.with (hJ28.1.2.2.setA rfl (by unfold P8; omega) hb73 (ti_any x77) hE78_50 oE78) (fun j hj => oE78 j (by omega))
                  refine v_aload_n C 0 dX2_answerOf_165 rfl rfl ?_
                  refine v_getr C 49 dX2_answerOf_166 fX2_9 (by omega) hE78_49 rfl rfl ?_
                  refine v_iload_n C 3 dX2_answerOf_169 rfl rfl ?_
                  refine v_iconst (v := 2) C dX2_answerOf_170 (by decide) ?_
                  refine v_isub C dX2_answerOf_171 ?_
                  refine v_top (fun x80 ex80 => ?_)
                  have hx80 : x80.toInt = (y3.toInt - 2) := by rw [ex80]; exact ti_sub (rfl : Int32.toInt y3 = _) (show (2 : Int32).toInt = 2 by decide) (by omega) (by omega)
                  refine v_iload C 7 dX2_answerOf_172 rfl ?_
                  obtain ⟨f81, hE81, hb81⟩ := hJ79.1.2.2.getA (b := 50) (by omega) rfl
                  refine v_ast C 50 dX2_answerOf_174 (by omega) hE81 (ti_in hx80 (by omega) (by omega)) (fun E82 hE82_50 oE82 => ?_)
                  rw [ti_cl hx80] at hE82_50
                  have hE82_49 := (oE82 49 (by decide)).trans hE78_49
                  have hJ83 := hJ79.with (hJ79.1.2.2.setA rfl (by unfold P8; omega) hb81 (ti_any x74) hE82_50 oE82) (fun j hj => oE82 j (by omega))
                  refine v_goto C 270 dX2_answerOf_175 (by decide) ?_
                  obtain ⟨x84, ex84⟩ : ∃ y : Int32, y = y4 + 1 := ⟨_, rfl⟩
                  have hx84 : x84.toInt = (y4.toInt + 1) := by rw [ex84]; exact ti_add (rfl : Int32.toInt y4 = _) (show (1 : Int32).toInt = 1 by decide) (by omega) (by omega)
                  refine v_iinc (v := x84) (lv' := [(0, .ref (ad 49)), (1, .ref (ad c)), (2, .int y2), (3, .int y3), (4, .int x84), (5, .int x17), (6, .int y19), (7, .int x74)]) C 4 [1, 2, 3, 4, 0, 5, 6, 7] dX2_answerOf_270 rfl (ex84.symm) (by decide) rfl ?_
                  refine v_goto C 5 dX2_answerOf_273 (by decide) ?_
                  refine v_sub (lv' := [(0, .ref (ad 49)), (1, .ref (ad c)), (2, .int y2), (3, .int y3), (4, .int x84)]) [0, 1, 2, 3, 4] rfl ?_
                  exact ih7 _ y2 y3 x84 hJ83 (by have := ti_any y2; have := hx84; omega) (by have := ti_any y2; have := hx84; omega) (by have := ti_any y2; have := hx84; omega)
              · refine v_aload_n C 0 dX2_answerOf_112 rfl rfl ?_
                obtain ⟨i85, hE85, hb85⟩ := hJ28.1.2.2.getO (b := 49) (by omega) rfl
                refine v_getr C 49 dX2_answerOf_113 fX2_9 (by omega) hE85 rfl rfl ?_
                refine v_iload_n C 3 dX2_answerOf_116 rfl rfl ?_
                refine v_aload_n C 0 dX2_answerOf_117 rfl rfl ?_
                refine v_getr C 49 dX2_answerOf_118 fX2_9 (by omega) hE85 rfl rfl ?_
                refine v_iload_n C 3 dX2_answerOf_121 rfl rfl ?_
                refine v_iconst (v := 1) C dX2_answerOf_122 (by decide) ?_
                refine v_isub C dX2_answerOf_123 ?_
                refine v_top (fun x86 ex86 => ?_)
                have hx86 : x86.toInt = (y3.toInt - 1) := by rw [ex86]; exact ti_sub (rfl : Int32.toInt y3 = _) (show (1 : Int32).toInt = 1 by decide) (by omega) (by omega)
                obtain ⟨f87, hE87, hb87⟩ := hJ28.1.2.2.getA (b := 50) (by omega) rfl
                refine v_ald (v := f87 ((y3.toInt - 1)).toNat) C 50 dX2_answerOf_124 (by omega) hE87 (ti_in hx86 (by omega) (by omega)) (by rw [ti_cl hx86]) ?_
                refine v_top (fun x88 _ => ?_)
                refine v_ast C 50 dX2_answerOf_125 (by omega) hE87 (ti_in (rfl : Int32.toInt y3 = _) (by omega) (by omega)) (fun E89 hE89_50 oE89 => ?_)
                rw [ti_cl (rfl : Int32.toInt y3 = _)] at hE89_50
                have hE89_49 := (oE89 49 (by decide)).trans hE85
                have hJ90 := hJ28.with (hJ28.1.2.2.setA rfl (by unfold P8; omega) hb87 (ti_any x88) hE89_50 oE89) (fun j hj => oE89 j (by omega))
                obtain ⟨x91, ex91⟩ : ∃ y : Int32, y = y3 + 1 := ⟨_, rfl⟩
                have hx91 : x91.toInt = (y3.toInt + 1) := by rw [ex91]; exact ti_add (rfl : Int32.toInt y3 = _) (show (1 : Int32).toInt = 1 by decide) (by omega) (by omega)
                refine v_iinc (v := x91) (lv' := [(0, .ref (ad 49)), (1, .ref (ad c)), (2, .int y2), (3, .int x91), (4, .int y4), (5, .int x17), (6, .int y19)]) C 3 [1, 2, 3, 0, 4, 5, 6] dX2_answerOf_126 rfl (ex91.symm) (by decide) rfl ?_
                refine v_goto C 270 dX2_answerOf_129 (by decide) ?_
                obtain ⟨x92, ex92⟩ : ∃ y : Int32, y = y4 + 1 := ⟨_, rfl⟩
                have hx92 : x92.toInt = (y4.toInt + 1) := by rw [ex92]; exact ti_add (rfl : Int32.toInt y4 = _) (show (1 : Int32).toInt = 1 by decide) (by omega) (by omega)
                refine v_iinc (v := x92) (lv' := [(0, .ref (ad 49)), (1, .ref (ad c)), (2, .int y2), (3, .int x91), (4, .int x92), (5, .int x17), (6, .int y19)]) C 4 [1, 2, 3, 4, 0, 5, 6] dX2_answerOf_270 rfl (ex92.symm) (by decide) rfl ?_
                refine v_goto C 5 dX2_answerOf_273 (by decide) ?_
                refine v_sub (lv' := [(0, .ref (ad 49)), (1, .ref (ad c)), (2, .int y2), (3, .int x91), (4, .int x92)]) [0, 1, 2, 3, 4] rfl ?_
                exact ih7 _ y2 x91 x92 hJ90 (by have := ti_any y2; have := hx91; have := hx92; omega) (by have := ti_any y2; have := hx91; have := hx92; omega) (by have := ti_any y2; have := hx91; have := hx92; omega)
            · refine v_aload_n C 0 dX2_answerOf_92 rfl rfl ?_
              obtain ⟨i93, hE93, hb93⟩ := hJ28.1.2.2.getO (b := 49) (by omega) rfl
              refine v_getr C 49 dX2_answerOf_93 fX2_9 (by omega) hE93 rfl rfl ?_
              refine v_iload_n C 3 dX2_answerOf_96 rfl rfl ?_
              refine v_iload_n C 2 dX2_answerOf_97 rfl rfl ?_
              obtain ⟨f94, hE94, hb94⟩ := hJ28.1.2.2.getA (b := 50) (by omega) rfl
              refine v_ast C 50 dX2_answerOf_98 (by omega) hE94 (ti_in (rfl : Int32.toInt y3 = _) (by omega) (by omega)) (fun E95 hE95_50 oE95 => ?_)
              rw [ti_cl (rfl : Int32.toInt y3 = _)] at hE95_50
              have hE95_49 := (oE95 49 (by decide)).trans hE93
              have hJ96 := hJ28.with (hJ28.1.2.2.setA rfl (by unfold P8; omega) hb94 (ti_any y2) hE95_50 oE95) (fun j hj => oE95 j (by omega))
              obtain ⟨x97, ex97⟩ : ∃ y : Int32, y = y3 + 1 := ⟨_, rfl⟩
              have hx97 : x97.toInt = (y3.toInt + 1) := by rw [ex97]; exact ti_add (rfl : Int32.toInt y3 = _) (show (1 : Int32).toInt = 1 by decide) (by omega) (by omega)
              refine v_iinc (v := x97) (lv' := [(0, .ref (ad 49)), (1, .ref (ad c)), (2, .int y2), (3, .int x97), (4, .int y4), (5, .int x17), (6, .int y19)]) C 3 [1, 2, 3, 0, 4, 5, 6] dX2_answerOf_99 rfl (ex97.symm) (by decide) rfl ?_
              refine v_goto C 270 dX2_answerOf_102 (by decide) ?_
              obtain ⟨x98, ex98⟩ : ∃ y : Int32, y = y4 + 1 := ⟨_, rfl⟩
              have hx98 : x98.toInt = (y4.toInt + 1) := by rw [ex98]; exact ti_add (rfl : Int32.toInt y4 = _) (show (1 : Int32).toInt = 1 by decide) (by omega) (by omega)
              refine v_iinc (v := x98) (lv' := [(0, .ref (ad 49)), (1, .ref (ad c)), (2, .int y2), (3, .int x97), (4, .int x98), (5, .int x17), (6, .int y19)]) C 4 [1, 2, 3, 4, 0, 5, 6] dX2_answerOf_270 rfl (ex98.symm) (by decide) rfl ?_
              refine v_goto C 5 dX2_answerOf_273 (by decide) ?_
              refine v_sub (lv' := [(0, .ref (ad 49)), (1, .ref (ad c)), (2, .int y2), (3, .int x97), (4, .int x98)]) [0, 1, 2, 3, 4] rfl ?_
              exact ih7 _ y2 x97 x98 hJ96 (by have := ti_any y2; have := hx97; have := hx98; omega) (by have := ti_any y2; have := hx97; have := hx98; omega) (by have := ti_any y2; have := hx97; have := hx98; omega)
          refine v_iload_n C 3 dX2_answerOf_60 rfl rfl ?_
          refine v_iload C 6 dX2_answerOf_61 rfl ?_
          refine b_icmp_lt C 84 dX2_answerOf_63 (by decide) (rfl : Int32.toInt y3 = _) (rfl : Int32.toInt y19 = _) (fun c99 => ?_) (fun c99 => ?_)
          · refine v_ldc C dX2_answerOf_84 kX2_32 ?_
            exact v_ret C dX2_answerOf_86 rfl rfl ⟨(ti_any (-2000000000)), hJ23⟩
          · refine v_iload_n C 3 dX2_answerOf_66 rfl rfl ?_
            refine v_bipush (v := 8) C dX2_answerOf_67 (by decide) ?_
            refine b_icmp_lt C 87 dX2_answerOf_69 (by decide) (rfl : Int32.toInt y3 = _) (show (8 : Int32).toInt = 8 by decide) (fun c100 => ?_) (fun c100 => ?_)
            · exact JN24 _ hJ23 (by omega) (by omega)
            · refine v_iload C 5 dX2_answerOf_72 rfl ?_
              refine b_if_eq C 84 dX2_answerOf_74 (by decide) (rfl : Int32.toInt x17 = _) (fun c101 => ?_) (fun c101 => ?_)
              · refine v_ldc C dX2_answerOf_84 kX2_32 ?_
                exact v_ret C dX2_answerOf_86 rfl rfl ⟨(ti_any (-2000000000)), hJ23⟩
              · refine v_iload C 5 dX2_answerOf_77 rfl ?_
                refine v_bipush (v := 10) C dX2_answerOf_79 (by decide) ?_
                refine b_icmp_ne C 87 dX2_answerOf_81 (by decide) (rfl : Int32.toInt x17 = _) (show (10 : Int32).toInt = 10 by decide) (fun c102 => ?_) (fun c102 => ?_)
                · exact JN24 _ hJ23 (by omega) (by omega)
                · refine v_ldc C dX2_answerOf_84 kX2_32 ?_
                  exact v_ret C dX2_answerOf_86 rfl rfl ⟨(ti_any (-2000000000)), hJ23⟩
        refine v_iload C 5 dX2_answerOf_23 rfl ?_
        refine b_if_ne C 32 dX2_answerOf_25 (by decide) (rfl : Int32.toInt x17 = _) (fun c103 => ?_) (fun c103 => ?_)
        · refine v_iload C 5 dX2_answerOf_32 rfl ?_
          refine v_bipush (v := 8) C dX2_answerOf_34 (by decide) ?_
          refine b_icmp_eq C 53 dX2_answerOf_36 (by decide) (rfl : Int32.toInt x17 = _) (show (8 : Int32).toInt = 8 by decide) (fun c104 => ?_) (fun c104 => ?_)
          · refine v_iconst (v := 2) C dX2_answerOf_53 (by decide) ?_
            refine v_goto C 58 dX2_answerOf_54 (by decide) ?_
            exact JN18 _ 2 hJ6 (by have := (show (2 : Int32).toInt = 2 by decide); omega) (by have := (show (2 : Int32).toInt = 2 by decide); omega) (by have := (show (2 : Int32).toInt = 2 by decide); omega)
          · refine v_iload C 5 dX2_answerOf_39 rfl ?_
            refine v_bipush (v := 9) C dX2_answerOf_41 (by decide) ?_
            refine b_icmp_eq C 53 dX2_answerOf_43 (by decide) (rfl : Int32.toInt x17 = _) (show (9 : Int32).toInt = 9 by decide) (fun c105 => ?_) (fun c105 => ?_)
            · refine v_iconst (v := 2) C dX2_answerOf_53 (by decide) ?_
              refine v_goto C 58 dX2_answerOf_54 (by decide) ?_
              exact JN18 _ 2 hJ6 (by have := (show (2 : Int32).toInt = 2 by decide); omega) (by have := (show (2 : Int32).toInt = 2 by decide); omega) (by have := (show (2 : Int32).toInt = 2 by decide); omega)
            · refine v_iload C 5 dX2_answerOf_46 rfl ?_
              refine v_bipush (v := 11) C dX2_answerOf_48 (by decide) ?_
              refine b_icmp_ne C 57 dX2_answerOf_50 (by decide) (rfl : Int32.toInt x17 = _) (show (11 : Int32).toInt = 11 by decide) (fun c106 => ?_) (fun c106 => ?_)
              · refine v_iconst (v := 1) C dX2_answerOf_57 (by decide) ?_
                exact JN18 _ 1 hJ6 (by have := (show (1 : Int32).toInt = 1 by decide); omega) (by have := (show (1 : Int32).toInt = 1 by decide); omega) (by have := (show (1 : Int32).toInt = 1 by decide); omega)
              · refine v_iconst (v := 2) C dX2_answerOf_53 (by decide) ?_
                refine v_goto C 58 dX2_answerOf_54 (by decide) ?_
                exact JN18 _ 2 hJ6 (by have := (show (2 : Int32).toInt = 2 by decide); omega) (by have := (show (2 : Int32).toInt = 2 by decide); omega) (by have := (show (2 : Int32).toInt = 2 by decide); omega)
        · refine v_iconst (v := 0) C dX2_answerOf_28 (by decide) ?_
          refine v_goto C 58 dX2_answerOf_29 (by decide) ?_
          exact JN18 _ 0 hJ6 (by have := (show (0 : Int32).toInt = 0 by decide); omega) (by have := (show (0 : Int32).toInt = 0 by decide); omega) (by have := (show (0 : Int32).toInt = 0 by decide); omega)
  exact LP1 100000 _ x 0 0 hJ (by have := ti_any x; have := (show (0 : Int32).toInt = 0 by decide); omega) (by have := ti_any x; have := (show (0 : Int32).toInt = 0 by decide); omega) (by have := ti_any x; have := (show (0 : Int32).toInt = 0 by decide); omega)

set_option maxRecDepth 20000 in
theorem tz_X1_hear (l : Launch) (G : Gl) (ad : Nat → Nat) {k : Nat} {Z : (Nat → va_E) → Prop} {Y : Nat → Int32 → (Nat → va_E) → Prop} {E0 E : Nat → va_E} (hJ : JZ l G ad k Z Y E0 E) (x : Int32) (y : Int32) (z : Int32) : CtV l G yX1_hear cX1_hear 4 0 0 (98 + 9 * k) ad E [.ref (ad 48), .int x, .int y, .int z] (fun E' => JZ l G ad k Z Y E0 E') := by
  refine CtV.of (by decide) (Nat.le_of_ble_eq_true rfl) (fun X A C => ?_)
  refine v_sub (lv' := [(0, .ref (ad 48)), (1, .int x), (2, .int y), (3, .int z)]) [0, 1, 2, 3] rfl ?_
  have hk5 := hJ.1.1
  refine v_aload_n C 0 dX1_hear_0 rfl rfl ?_
  refine v_iload_n C 1 dX1_hear_1 rfl rfl ?_
  obtain ⟨i1, hE1, hb1⟩ := hJ.1.2.2.getO (b := 48) (by omega) rfl
  refine v_puti C 48 dX1_hear_2 fX1_32 (by omega) hE1 rfl rfl rfl rfl (fun E2 hE2_48 oE2 => ?_)
  obtain ⟨hJ3, hb4⟩ := hJ.1.2.2.setO rfl (by unfold P8; omega) hb1 (k := 4) (ti_any x) hE2_48 oE2
  have hJ3 := hJ.with hJ3 (fun j hj => oE2 j (by omega))
  refine v_aload_n C 0 dX1_hear_5 rfl rfl ?_
  refine v_iload_n C 2 dX1_hear_6 rfl rfl ?_
  refine v_puti C 48 dX1_hear_7 fX1_36 (by omega) hE2_48 rfl rfl rfl rfl (fun E5 hE5_48 oE5 => ?_)
  obtain ⟨hJ6, hb7⟩ := hJ3.1.2.2.setO rfl (by unfold P8; omega) hb4 (k := 5) (ti_any y) hE5_48 oE5
  have hJ6 := hJ3.with hJ6 (fun j hj => oE5 j (by omega))
  refine v_aload_n C 0 dX1_hear_10 rfl rfl ?_
  refine v_iload_n C 3 dX1_hear_11 rfl rfl ?_
  refine v_puti C 48 dX1_hear_12 fX1_39 (by omega) hE5_48 rfl rfl rfl rfl (fun E8 hE8_48 oE8 => ?_)
  obtain ⟨hJ9, hb10⟩ := hJ6.1.2.2.setO rfl (by unfold P8; omega) hb7 (k := 6) (ti_any z) hE8_48 oE8
  have hJ9 := hJ6.with hJ9 (fun j hj => oE8 j (by omega))
  exact v_vret C dX1_hear_15 rfl hJ9

set_option maxRecDepth 20000 in
theorem tz_X1_firstBroken (l : Launch) (G : Gl) (ad : Nat → Nat) {k : Nat} {Z : (Nat → va_E) → Prop} {Y : Nat → Int32 → (Nat → va_E) → Prop} {E0 E : Nat → va_E} (hJ : JZ l G ad k Z Y E0 E) (c : Nat) (hc : PC c) : CtI l G yX1_firstBroken cX1_firstBroken 4 .int 5 124 (98 + 9 * k) ad E [.ref (ad 48), .ref (ad c)] (fun r E' => ((-2147483648 : Int) ≤ r.toInt ∧ r.toInt ≤ 2147483647) ∧ JZ l G ad k Z Y E0 E') := by
  refine CtI.of (by decide) (Nat.le_of_ble_eq_true rfl) (fun X A C => ?_)
  refine v_sub (lv' := [(0, .ref (ad 48)), (1, .ref (ad c))]) [0, 1] rfl ?_
  have hk5 := hJ.1.1
  have hcn := hc.n
  refine v_iconst (v := 0) C dX1_firstBroken_0 (by decide) ?_
  refine v_istore_n (lv' := [(0, .ref (ad 48)), (1, .ref (ad c)), (2, .int 0)]) C [1, 2, 0] dX1_firstBroken_1 rfl (by decide) rfl ?_
  have LP1 : ∀ (t : Nat) (E3 : Nat → va_E) (y2 : Int32), JZ l G ad k Z Y E0 E3 → ((0 : Int) ≤ y2.toInt ∧ y2.toInt ≤ 26002) → 26003 - y2.toInt < (t : Int) → V X G A 4 (QI X G A (98 + 9 * k) ad (fun r E' => ((-2147483648 : Int) ≤ r.toInt ∧ r.toInt ≤ 2147483647) ∧ JZ l G ad k Z Y E0 E')) (98 + 9 * k) ad 0 0 E3 2 [(0, .ref (ad 48)), (1, .ref (ad c)), (2, .int y2)] [] := by
    intro t7
    induction t7 with
    | zero => intro E3 y2 hJ4 hy2 hm6; exfalso; omega
    | succ t7 ih5 =>
      intro E3 y2 hJ4 hy2 hm6
      refine v_iload_n C 2 dX1_firstBroken_2 rfl rfl ?_
      refine v_aload_n C 0 dX1_firstBroken_3 rfl rfl ?_
      obtain ⟨i8, hE8, hb8⟩ := hJ4.1.2.2.getO (b := 48) (by omega) rfl
      refine v_getr C 48 dX1_firstBroken_4 fX1_19 (by omega) hE8 rfl rfl ?_
      obtain ⟨i9, hE9, hb9⟩ := hJ4.1.2.2.getO (b := 45) (by omega) rfl
      refine v_geti (v := i9 2) C 45 dX1_firstBroken_7 fX1_74 (by omega) hE9 rfl rfl ?_
      have hi9_2 : (0 : Int) ≤ (i9 2).toInt ∧ (i9 2).toInt ≤ 26002 := hb9 2
      refine b_icmp_ge C 52 dX1_firstBroken_10 (by decide) (rfl : Int32.toInt y2 = _) (rfl : Int32.toInt (i9 2) = _) (fun c10 => ?_) (fun c10 => ?_)
      · refine v_iconst (v := (-1)) C dX1_firstBroken_52 (by decide) ?_
        exact v_ret C dX1_firstBroken_53 rfl rfl ⟨(ti_any (-1)), hJ4⟩
      · refine v_aload_n C 0 dX1_firstBroken_13 rfl rfl ?_
        refine v_getr C 48 dX1_firstBroken_14 fX1_19 (by omega) hE8 rfl rfl ?_
        refine v_getr C 45 dX1_firstBroken_17 fX1_79 (by omega) hE9 rfl rfl ?_
        refine v_iload_n C 2 dX1_firstBroken_20 rfl rfl ?_
        obtain ⟨f11, hE11, hb11⟩ := hJ4.1.2.2.getA (b := 47) (by omega) rfl
        refine v_ald (v := f11 (y2.toInt).toNat) C 47 dX1_firstBroken_21 (by omega) hE11 (ti_in (rfl : Int32.toInt y2 = _) (by omega) (by omega)) (by rw [ti_cl (rfl : Int32.toInt y2 = _)]) ?_
        refine v_top (fun x12 _ => ?_)
        refine v_istore_n (lv' := [(0, .ref (ad 48)), (1, .ref (ad c)), (2, .int y2), (3, .int x12)]) C [1, 2, 3, 0] dX1_firstBroken_22 rfl (by decide) rfl ?_
        refine v_aload_n C 0 dX1_firstBroken_23 rfl rfl ?_
        refine v_aload_n C 1 dX1_firstBroken_24 rfl rfl ?_
        obtain ⟨i13, hE13, hb13⟩ := hJ4.1.2.2.getO (b := c) (by omega) (hc.t0 k)
        refine v_geti (v := i13 8) C c dX1_firstBroken_25 fX1_83 (by omega) hE13 rfl rfl ?_
        refine v_aload_n C 0 dX1_firstBroken_28 rfl rfl ?_
        refine v_getr C 48 dX1_firstBroken_29 fX1_28 (by omega) hE8 rfl rfl ?_
        refine v_aload_n C 1 dX1_firstBroken_32 rfl rfl ?_
        refine v_iload_n C 3 dX1_firstBroken_33 rfl rfl ?_
        obtain ⟨i18, hE18, hb18⟩ := hJ4.1.2.2.getO (b := 49) (by omega) rfl
        refine v_cVi C dX1_firstBroken_34 lX1_88 mX2_answerOf 49 (by omega) hE18 (by decide) rfl (tz_X2_answerOf l G ad hJ4 c hc x12) ⟨by decide, by decide⟩ rfl (Nat.le_of_ble_eq_true rfl) ⟨Nat.zero_le _, Nat.zero_le _⟩ (fun r14 E15 hp16 => ?_)
        obtain ⟨hp16, hJ17⟩ := hp16
        refine v_iload_n C 3 dX1_firstBroken_37 rfl rfl ?_
        obtain ⟨i21, hE21, hb21⟩ := hJ17.1.2.2.getO (b := 48) (by omega) rfl
        refine v_cVp C dX1_firstBroken_38 lX1_92 mX1_holds 48 (by omega) hE21 (by decide) rfl (t_X1_holds l G ad hJ17.1 (i13 8) r14 x12) ⟨by decide, by decide⟩ rfl (Nat.le_of_ble_eq_true rfl) ⟨Nat.zero_le _, Nat.zero_le _⟩ (fun r19 hp20 => ?_)
        rcases hp20 with rfl | rfl
        · refine b_if_ne C 46 dX1_firstBroken_41 (by decide) (show (0 : Int32).toInt = 0 by decide) (fun c22 => absurd c22 (by decide)) (fun c22 => ?_)
          refine v_iload_n C 3 dX1_firstBroken_44 rfl rfl ?_
          exact v_ret C dX1_firstBroken_45 rfl rfl ⟨(ti_any x12), hJ17⟩
        · refine b_if_ne C 46 dX1_firstBroken_41 (by decide) (show (1 : Int32).toInt = 1 by decide) (fun c23 => ?_) (fun c23 => absurd c23 (by decide))
          obtain ⟨x24, ex24⟩ : ∃ y : Int32, y = y2 + 1 := ⟨_, rfl⟩
          have hx24 : x24.toInt = (y2.toInt + 1) := by rw [ex24]; exact ti_add (rfl : Int32.toInt y2 = _) (show (1 : Int32).toInt = 1 by decide) (by omega) (by omega)
          refine v_iinc (v := x24) (lv' := [(0, .ref (ad 48)), (1, .ref (ad c)), (2, .int x24), (3, .int x12)]) C 2 [1, 2, 0, 3] dX1_firstBroken_46 rfl (ex24.symm) (by decide) rfl ?_
          refine v_goto C 2 dX1_firstBroken_49 (by decide) ?_
          refine v_sub (lv' := [(0, .ref (ad 48)), (1, .ref (ad c)), (2, .int x24)]) [0, 1, 2] rfl ?_
          exact ih5 _ x24 hJ17 (by have := hx24; omega) (by have := hx24; omega)
  exact LP1 100000 _ 0 hJ (by have := (show (0 : Int32).toInt = 0 by decide); omega) (by have := (show (0 : Int32).toInt = 0 by decide); omega)

set_option maxRecDepth 20000 in
theorem tz_X1_isRight (l : Launch) (G : Gl) (ad : Nat → Nat) {k : Nat} {Z : (Nat → va_E) → Prop} {Y : Nat → Int32 → (Nat → va_E) → Prop} {E0 E : Nat → va_E} (hJ : JZ l G ad k Z Y E0 E) (c : Nat) (hc : PC c) : CtI l G yX1_isRight cX1_isRight 4 .boolean 5 124 (98 + 9 * k) ad E [.ref (ad 48), .ref (ad c)] (fun r E' => (r = 0 ∨ r = 1) ∧ JZ l G ad k Z Y E0 E') := by
  refine CtI.of (by decide) (Nat.le_of_ble_eq_true rfl) (fun X A C => ?_)
  refine v_sub (lv' := [(0, .ref (ad 48)), (1, .ref (ad c))]) [0, 1] rfl ?_
  have hk5 := hJ.1.1
  have hcn := hc.n
  refine v_aload_n C 1 dX1_isRight_0 rfl rfl ?_
  obtain ⟨i1, hE1, hb1⟩ := hJ.1.2.2.getO (b := c) (by omega) (hc.t0 k)
  refine v_geti (v := i1 7) C c dX1_isRight_1 fX1_96 (by omega) hE1 rfl rfl ?_
  refine v_iconst (v := (-1)) C dX1_isRight_4 (by decide) ?_
  refine b_icmp_eq C 10 dX1_isRight_5 (by decide) (rfl : Int32.toInt (i1 7) = _) (show ((-1) : Int32).toInt = (-1) by decide) (fun c2 => ?_) (fun c2 => ?_)
  · refine v_iconst (v := (-1)) C dX1_isRight_10 (by decide) ?_
    refine v_istore_n (lv' := [(0, .ref (ad 48)), (1, .ref (ad c)), (2, .int (-1))]) C [1, 2, 0] dX1_isRight_11 rfl (by decide) rfl ?_
    have LP3 : ∀ (t : Nat) (E5 : Nat → va_E) (y4 : Int32), JZ l G ad k Z Y E0 E5 → ((-1 : Int) ≤ y4.toInt ∧ y4.toInt ≤ 26002) → 26003 - y4.toInt < (t : Int) → V X G A 4 (QI X G A (98 + 9 * k) ad (fun r E' => (r = 0 ∨ r = 1) ∧ JZ l G ad k Z Y E0 E')) (98 + 9 * k) ad 0 0 E5 12 [(0, .ref (ad 48)), (1, .ref (ad c)), (2, .int y4)] [] := by
      intro t9
      induction t9 with
      | zero => intro E5 y4 hJ6 hy4 hm8; exfalso; omega
      | succ t9 ih7 =>
        intro E5 y4 hJ6 hy4 hm8
        refine v_iload_n C 2 dX1_isRight_12 rfl rfl ?_
        refine v_aload_n C 0 dX1_isRight_13 rfl rfl ?_
        obtain ⟨i10, hE10, hb10⟩ := hJ6.1.2.2.getO (b := 48) (by omega) rfl
        refine v_getr C 48 dX1_isRight_14 fX1_19 (by omega) hE10 rfl rfl ?_
        obtain ⟨i11, hE11, hb11⟩ := hJ6.1.2.2.getO (b := 45) (by omega) rfl
        refine v_geti (v := i11 2) C 45 dX1_isRight_17 fX1_74 (by omega) hE11 rfl rfl ?_
        have hi11_2 : (0 : Int) ≤ (i11 2).toInt ∧ (i11 2).toInt ≤ 26002 := hb11 2
        refine b_icmp_ge C 78 dX1_isRight_20 (by decide) (rfl : Int32.toInt y4 = _) (rfl : Int32.toInt (i11 2) = _) (fun c12 => ?_) (fun c12 => ?_)
        · refine v_iconst (v := 1) C dX1_isRight_78 (by decide) ?_
          exact v_ret C dX1_isRight_79 rfl rfl ⟨Or.inr rfl, hJ6⟩
        · have JN13 : ∀ (E15 : Nat → va_E) (y14 : Int32), JZ l G ad k Z Y E0 E15 → V X G A 4 (QI X G A (98 + 9 * k) ad (fun r E' => (r = 0 ∨ r = 1) ∧ JZ l G ad k Z Y E0 E')) (98 + 9 * k) ad 0 0 E15 43 [(0, .ref (ad 48)), (1, .ref (ad c)), (2, .int y4)] [.int y14] := by
            intro E15 y14 hJ16
            refine v_istore_n (lv' := [(0, .ref (ad 48)), (1, .ref (ad c)), (2, .int y4), (3, .int y14)]) C [1, 2, 3, 0] dX1_isRight_43 rfl (by decide) rfl ?_
            refine v_aload_n C 0 dX1_isRight_44 rfl rfl ?_
            refine v_aload_n C 1 dX1_isRight_45 rfl rfl ?_
            obtain ⟨i17, hE17, hb17⟩ := hJ16.1.2.2.getO (b := c) (by omega) (hc.t0 k)
            refine v_geti (v := i17 8) C c dX1_isRight_46 fX1_83 (by omega) hE17 rfl rfl ?_
            refine v_aload_n C 0 dX1_isRight_49 rfl rfl ?_
            obtain ⟨i18, hE18, hb18⟩ := hJ16.1.2.2.getO (b := 48) (by omega) rfl
            refine v_getr C 48 dX1_isRight_50 fX1_28 (by omega) hE18 rfl rfl ?_
            refine v_aload_n C 1 dX1_isRight_53 rfl rfl ?_
            refine v_iload_n C 3 dX1_isRight_54 rfl rfl ?_
            obtain ⟨i23, hE23, hb23⟩ := hJ16.1.2.2.getO (b := 49) (by omega) rfl
            refine v_cVi C dX1_isRight_55 lX1_88 mX2_answerOf 49 (by omega) hE23 (by decide) rfl (tz_X2_answerOf l G ad hJ16 c hc y14) ⟨by decide, by decide⟩ rfl (Nat.le_of_ble_eq_true rfl) ⟨Nat.zero_le _, Nat.zero_le _⟩ (fun r19 E20 hp21 => ?_)
            obtain ⟨hp21, hJ22⟩ := hp21
            refine v_iload_n C 3 dX1_isRight_58 rfl rfl ?_
            obtain ⟨i26, hE26, hb26⟩ := hJ22.1.2.2.getO (b := 48) (by omega) rfl
            refine v_cVp C dX1_isRight_59 lX1_92 mX1_holds 48 (by omega) hE26 (by decide) rfl (t_X1_holds l G ad hJ22.1 (i17 8) r19 y14) ⟨by decide, by decide⟩ rfl (Nat.le_of_ble_eq_true rfl) ⟨Nat.zero_le _, Nat.zero_le _⟩ (fun r24 hp25 => ?_)
            rcases hp25 with rfl | rfl
            · refine b_if_ne C 72 dX1_isRight_62 (by decide) (show (0 : Int32).toInt = 0 by decide) (fun c27 => absurd c27 (by decide)) (fun c27 => ?_)
              refine v_aload_n C 0 dX1_isRight_65 rfl rfl ?_
              refine v_iload_n C 3 dX1_isRight_66 rfl rfl ?_
              refine v_puti C 48 dX1_isRight_67 fX1_99 (by omega) hE26 rfl rfl rfl rfl (fun E28 hE28_48 oE28 => ?_)
              obtain ⟨hJ29, hb30⟩ := hJ22.1.2.2.setO rfl (by unfold P8; omega) hb26 (k := 7) (ti_any y14) hE28_48 oE28
              have hJ29 := hJ22.with hJ29 (fun j hj => oE28 j (by omega))
              refine v_iconst (v := 0) C dX1_isRight_70 (by decide) ?_
              exact v_ret C dX1_isRight_71 rfl rfl ⟨Or.inl rfl, hJ29⟩
            · refine b_if_ne C 72 dX1_isRight_62 (by decide) (show (1 : Int32).toInt = 1 by decide) (fun c31 => ?_) (fun c31 => absurd c31 (by decide))
              obtain ⟨x32, ex32⟩ : ∃ y : Int32, y = y4 + 1 := ⟨_, rfl⟩
              have hx32 : x32.toInt = (y4.toInt + 1) := by rw [ex32]; exact ti_add (rfl : Int32.toInt y4 = _) (show (1 : Int32).toInt = 1 by decide) (by omega) (by omega)
              refine v_iinc (v := x32) (lv' := [(0, .ref (ad 48)), (1, .ref (ad c)), (2, .int x32), (3, .int y14)]) C 2 [1, 2, 0, 3] dX1_isRight_72 rfl (ex32.symm) (by decide) rfl ?_
              refine v_goto C 12 dX1_isRight_75 (by decide) ?_
              refine v_sub (lv' := [(0, .ref (ad 48)), (1, .ref (ad c)), (2, .int x32)]) [0, 1, 2] rfl ?_
              exact ih7 _ x32 hJ22 (by have := hx32; omega) (by have := hx32; omega)
          refine v_iload_n C 2 dX1_isRight_23 rfl rfl ?_
          refine b_if_ge C 34 dX1_isRight_24 (by decide) (rfl : Int32.toInt y4 = _) (fun c33 => ?_) (fun c33 => ?_)
          · refine v_aload_n C 0 dX1_isRight_34 rfl rfl ?_
            refine v_getr C 48 dX1_isRight_35 fX1_19 (by omega) hE10 rfl rfl ?_
            refine v_getr C 45 dX1_isRight_38 fX1_79 (by omega) hE11 rfl rfl ?_
            refine v_iload_n C 2 dX1_isRight_41 rfl rfl ?_
            obtain ⟨f34, hE34, hb34⟩ := hJ6.1.2.2.getA (b := 47) (by omega) rfl
            refine v_ald (v := f34 (y4.toInt).toNat) C 47 dX1_isRight_42 (by omega) hE34 (ti_in (rfl : Int32.toInt y4 = _) (by omega) (by omega)) (by rw [ti_cl (rfl : Int32.toInt y4 = _)]) ?_
            refine v_top (fun x35 _ => ?_)
            exact JN13 _ x35 hJ6 
          · refine v_aload_n C 0 dX1_isRight_27 rfl rfl ?_
            refine v_geti (v := i10 7) C 48 dX1_isRight_28 fX1_99 (by omega) hE10 rfl rfl ?_
            refine v_goto C 43 dX1_isRight_31 (by decide) ?_
            exact JN13 _ (i10 7) hJ6 
    exact LP3 100000 _ (-1) hJ (by have := (show ((-1) : Int32).toInt = (-1) by decide); omega) (by have := (show ((-1) : Int32).toInt = (-1) by decide); omega)
  · refine v_iconst (v := 0) C dX1_isRight_8 (by decide) ?_
    exact v_ret C dX1_isRight_9 rfl rfl ⟨Or.inl rfl, hJ⟩

set_option maxRecDepth 20000 in
theorem tz_X3_addEdit (l : Launch) (G : Gl) (ad : Nat → Nat) {k : Nat} {Z : (Nat → va_E) → Prop} {Y : Nat → Int32 → (Nat → va_E) → Prop} {E0 E : Nat → va_E} (hJ : JZ l G ad k Z Y E0 E) (i : Int32) (hi : (0 : Int) ≤ i.toInt ∧ i.toInt ≤ 9) (x : Int32) (y : Int32) (z : Int32) : CtV l G yX3_addEdit cX3_addEdit 5 0 0 (98 + 9 * k) ad E [.ref (ad 51), .int i, .int x, .int y, .int z] (fun E' => JZ l G ad k Z Y E0 E') := by
  refine CtV.of (by decide) (Nat.le_of_ble_eq_true rfl) (fun X A C => ?_)
  refine v_sub (lv' := [(0, .ref (ad 51)), (1, .int i), (2, .int x), (3, .int y), (4, .int z)]) [0, 1, 2, 3, 4] rfl ?_
  have hk5 := hJ.1.1
  refine v_aload_n C 0 dX3_addEdit_0 rfl rfl ?_
  obtain ⟨i1, hE1, hb1⟩ := hJ.1.2.2.getO (b := 51) (by omega) rfl
  refine v_geti (v := i1 8) C 51 dX3_addEdit_1 fX3_72 (by omega) hE1 rfl rfl ?_
  have hi1_8 : (0 : Int) ≤ (i1 8).toInt ∧ (i1 8).toInt ≤ 50 := hb1 8
  refine v_bipush (v := 50) C dX3_addEdit_4 (by decide) ?_
  refine b_icmp_ge C 60 dX3_addEdit_6 (by decide) (rfl : Int32.toInt (i1 8) = _) (show (50 : Int32).toInt = 50 by decide) (fun c2 => ?_) (fun c2 => ?_)
  · exact v_vret C dX3_addEdit_60 rfl hJ
  · refine v_aload_n C 0 dX3_addEdit_9 rfl rfl ?_
    refine v_getr C 51 dX3_addEdit_10 fX3_21 (by omega) hE1 rfl rfl ?_
    refine v_aload_n C 0 dX3_addEdit_13 rfl rfl ?_
    refine v_geti (v := i1 8) C 51 dX3_addEdit_14 fX3_72 (by omega) hE1 rfl rfl ?_
    refine v_iload_n C 1 dX3_addEdit_17 rfl rfl ?_
    obtain ⟨f3, hE3, hb3⟩ := hJ.1.2.2.getA (b := 64) (by omega) rfl
    refine v_ast C 64 dX3_addEdit_18 (by omega) hE3 (ti_in (rfl : Int32.toInt (i1 8) = _) (by omega) (by omega)) (fun E4 hE4_64 oE4 => ?_)
    rw [ti_cl (rfl : Int32.toInt (i1 8) = _)] at hE4_64
    have hE4_51 := (oE4 51 (by decide)).trans hE1
    have hJ5 := hJ.with (hJ.1.2.2.setA rfl (by unfold P8; omega) hb3 (show (0 : Int) ≤ Int32.toInt i ∧ Int32.toInt i ≤ 9 by omega) hE4_64 oE4) (fun j hj => oE4 j (by omega))
    refine v_aload_n C 0 dX3_addEdit_19 rfl rfl ?_
    refine v_getr C 51 dX3_addEdit_20 fX3_25 (by omega) hE4_51 rfl rfl ?_
    refine v_aload_n C 0 dX3_addEdit_23 rfl rfl ?_
    refine v_geti (v := i1 8) C 51 dX3_addEdit_24 fX3_72 (by omega) hE4_51 rfl rfl ?_
    refine v_iload_n C 2 dX3_addEdit_27 rfl rfl ?_
    obtain ⟨f6, hE6, hb6⟩ := hJ5.1.2.2.getA (b := 65) (by omega) rfl
    refine v_ast C 65 dX3_addEdit_28 (by omega) hE6 (ti_in (rfl : Int32.toInt (i1 8) = _) (by omega) (by omega)) (fun E7 hE7_65 oE7 => ?_)
    rw [ti_cl (rfl : Int32.toInt (i1 8) = _)] at hE7_65
    have hE7_51 := (oE7 51 (by decide)).trans hE4_51
    have hJ8 := hJ5.with (hJ5.1.2.2.setA rfl (by unfold P8; omega) hb6 (ti_any x) hE7_65 oE7) (fun j hj => oE7 j (by omega))
    refine v_aload_n C 0 dX3_addEdit_29 rfl rfl ?_
    refine v_getr C 51 dX3_addEdit_30 fX3_28 (by omega) hE7_51 rfl rfl ?_
    refine v_aload_n C 0 dX3_addEdit_33 rfl rfl ?_
    refine v_geti (v := i1 8) C 51 dX3_addEdit_34 fX3_72 (by omega) hE7_51 rfl rfl ?_
    refine v_iload_n C 3 dX3_addEdit_37 rfl rfl ?_
    obtain ⟨f9, hE9, hb9⟩ := hJ8.1.2.2.getA (b := 66) (by omega) rfl
    refine v_ast C 66 dX3_addEdit_38 (by omega) hE9 (ti_in (rfl : Int32.toInt (i1 8) = _) (by omega) (by omega)) (fun E10 hE10_66 oE10 => ?_)
    rw [ti_cl (rfl : Int32.toInt (i1 8) = _)] at hE10_66
    have hE10_51 := (oE10 51 (by decide)).trans hE7_51
    have hJ11 := hJ8.with (hJ8.1.2.2.setA rfl (by unfold P8; omega) hb9 (ti_any y) hE10_66 oE10) (fun j hj => oE10 j (by omega))
    refine v_aload_n C 0 dX3_addEdit_39 rfl rfl ?_
    refine v_getr C 51 dX3_addEdit_40 fX3_31 (by omega) hE10_51 rfl rfl ?_
    refine v_aload_n C 0 dX3_addEdit_43 rfl rfl ?_
    refine v_geti (v := i1 8) C 51 dX3_addEdit_44 fX3_72 (by omega) hE10_51 rfl rfl ?_
    refine v_iload C 4 dX3_addEdit_47 rfl ?_
    obtain ⟨f12, hE12, hb12⟩ := hJ11.1.2.2.getA (b := 67) (by omega) rfl
    refine v_ast C 67 dX3_addEdit_49 (by omega) hE12 (ti_in (rfl : Int32.toInt (i1 8) = _) (by omega) (by omega)) (fun E13 hE13_67 oE13 => ?_)
    rw [ti_cl (rfl : Int32.toInt (i1 8) = _)] at hE13_67
    have hE13_51 := (oE13 51 (by decide)).trans hE10_51
    have hJ14 := hJ11.with (hJ11.1.2.2.setA rfl (by unfold P8; omega) hb12 (ti_any z) hE13_67 oE13) (fun j hj => oE13 j (by omega))
    refine v_aload_n C 0 dX3_addEdit_50 rfl rfl ?_
    refine v_dup C dX3_addEdit_51 rfl ?_
    refine v_geti (v := i1 8) C 51 dX3_addEdit_52 fX3_72 (by omega) hE13_51 rfl rfl ?_
    refine v_iconst (v := 1) C dX3_addEdit_55 (by decide) ?_
    refine v_iadd C dX3_addEdit_56 ?_
    refine v_top (fun x15 ex15 => ?_)
    have hx15 : x15.toInt = ((i1 8).toInt + 1) := by rw [ex15]; exact ti_add (rfl : Int32.toInt (i1 8) = _) (show (1 : Int32).toInt = 1 by decide) (by omega) (by omega)
    refine v_puti C 51 dX3_addEdit_57 fX3_72 (by omega) hE13_51 rfl rfl rfl rfl (fun E16 hE16_51 oE16 => ?_)
    obtain ⟨hJ17, hb18⟩ := hJ14.1.2.2.setO rfl (by unfold P8; omega) hb1 (k := 8) (show (0 : Int) ≤ Int32.toInt x15 ∧ Int32.toInt x15 ≤ 50 by have := hx15; omega) hE16_51 oE16
    have hJ17 := hJ14.with hJ17 (fun j hj => oE16 j (by omega))
    exact v_vret C dX3_addEdit_60 rfl hJ17

set_option maxRecDepth 20000 in
theorem tz_X3_addZones (l : Launch) (G : Gl) (ad : Nat → Nat) {k : Nat} {Z : (Nat → va_E) → Prop} {Y : Nat → Int32 → (Nat → va_E) → Prop} {E0 E : Nat → va_E} (hJ : JZ l G ad k Z Y E0 E) (i : Int32) (hi : (0 : Int) ≤ i.toInt ∧ i.toInt ≤ 9) (x : Int32) (y : Int32) (z : Int32) : CtV l G yX3_addZones cX3_addZones 6 1 24 (98 + 9 * k) ad E [.ref (ad 51), .int i, .int x, .int y, .int z] (fun E' => JZ l G ad k Z Y E0 E') := by
  refine CtV.of (by decide) (Nat.le_of_ble_eq_true rfl) (fun X A C => ?_)
  refine v_sub (lv' := [(0, .ref (ad 51)), (1, .int i), (2, .int x), (3, .int y), (4, .int z)]) [0, 1, 2, 3, 4] rfl ?_
  have hk5 := hJ.1.1
  refine v_iconst (v := 0) C dX3_addZones_0 (by decide) ?_
  refine v_istore (lv' := [(0, .ref (ad 51)), (1, .int i), (2, .int x), (3, .int y), (4, .int z), (5, .int 0)]) C [1, 2, 3, 4, 5, 0] dX3_addZones_1 (by decide) rfl ?_
  have LP1 : ∀ (t : Nat) (E4 : Nat → va_E) (y2 : Int32), JZ l G ad k Z Y E0 E4 → ((0 : Int) ≤ y2.toInt ∧ y2.toInt ≤ 5) → (y2.toInt ≤ (k : Int)) → 6 - y2.toInt < (t : Int) → V X G A 6 (QV X G A (98 + 9 * k) ad (fun E' => JZ l G ad k Z Y E0 E')) (98 + 9 * k) ad 0 0 E4 3 [(0, .ref (ad 51)), (1, .int i), (2, .int x), (3, .int y), (4, .int z), (5, .int y2)] [] := by
    intro t8
    induction t8 with
    | zero => intro E4 y2 hJ5 hy2 hq3 hm7; exfalso; omega
    | succ t8 ih6 =>
      intro E4 y2 hJ5 hy2 hq3 hm7
      refine v_iload C 5 dX3_addZones_3 rfl ?_
      refine v_aload_n C 0 dX3_addZones_5 rfl rfl ?_
      obtain ⟨i9, hE9, hb9⟩ := hJ5.1.2.2.getO (b := 51) (by omega) rfl
      refine v_getr C 51 dX3_addZones_6 fX3_34 (by omega) hE9 rfl rfl ?_
      obtain ⟨i10, hE10, hb10⟩ := hJ5.1.2.2.getO (b := 6) (by omega) rfl
      refine v_geti (v := i10 1) C 6 dX3_addZones_9 fX3_120 (by omega) hE10 rfl rfl ?_
      have hi10_1 : (k : Int) ≤ (i10 1).toInt ∧ (i10 1).toInt ≤ (k : Int) := hb10 1
      refine b_icmp_ge C 37 dX3_addZones_12 (by decide) (rfl : Int32.toInt y2 = _) (rfl : Int32.toInt (i10 1) = _) (fun c11 => ?_) (fun c11 => ?_)
      · exact v_vret C dX3_addZones_37 rfl hJ5
      · refine v_iload C 5 dX3_addZones_15 rfl ?_
        refine v_iload_n C 3 dX3_addZones_17 rfl rfl ?_
        refine b_icmp_eq C 31 dX3_addZones_18 (by decide) (rfl : Int32.toInt y2 = _) (rfl : Int32.toInt y = _) (fun c12 => ?_) (fun c12 => ?_)
        · obtain ⟨x13, ex13⟩ : ∃ y : Int32, y = y2 + 1 := ⟨_, rfl⟩
          have hx13 : x13.toInt = (y2.toInt + 1) := by rw [ex13]; exact ti_add (rfl : Int32.toInt y2 = _) (show (1 : Int32).toInt = 1 by decide) (by omega) (by omega)
          refine v_iinc (v := x13) (lv' := [(0, .ref (ad 51)), (1, .int i), (2, .int x), (3, .int y), (4, .int z), (5, .int x13)]) C 5 [1, 2, 3, 4, 5, 0] dX3_addZones_31 rfl (ex13.symm) (by decide) rfl ?_
          refine v_goto C 3 dX3_addZones_34 (by decide) ?_
          exact ih6 _ x13 hJ5 (by have := hx13; omega) (by have := hx13; omega) (by have := hx13; omega)
        · refine v_aload_n C 0 dX3_addZones_21 rfl rfl ?_
          refine v_iload_n C 1 dX3_addZones_22 rfl rfl ?_
          refine v_iload_n C 2 dX3_addZones_23 rfl rfl ?_
          refine v_iload C 5 dX3_addZones_24 rfl ?_
          refine v_iload C 4 dX3_addZones_26 rfl ?_
          refine v_cVv C dX3_addZones_28 lX3_102 mX3_addEdit 51 (by omega) hE9 (by decide) rfl (tz_X3_addEdit l G ad hJ5 i (show (0 : Int) ≤ Int32.toInt i ∧ Int32.toInt i ≤ 9 by omega) x y2 z) ⟨by decide, by decide⟩ rfl (Nat.le_of_ble_eq_true rfl) ⟨Nat.zero_le _, Nat.zero_le _⟩ (fun E15 hJ17 => ?_)
          obtain ⟨x18, ex18⟩ : ∃ y : Int32, y = y2 + 1 := ⟨_, rfl⟩
          have hx18 : x18.toInt = (y2.toInt + 1) := by rw [ex18]; exact ti_add (rfl : Int32.toInt y2 = _) (show (1 : Int32).toInt = 1 by decide) (by omega) (by omega)
          refine v_iinc (v := x18) (lv' := [(0, .ref (ad 51)), (1, .int i), (2, .int x), (3, .int y), (4, .int z), (5, .int x18)]) C 5 [1, 2, 3, 4, 5, 0] dX3_addZones_31 rfl (ex18.symm) (by decide) rfl ?_
          refine v_goto C 3 dX3_addZones_34 (by decide) ?_
          exact ih6 _ x18 hJ17 (by have := hx18; omega) (by have := hx18; omega) (by have := hx18; omega)
  exact LP1 100000 _ 0 hJ (by have := (show (0 : Int32).toInt = 0 by decide); omega) (by have := (show (0 : Int32).toInt = 0 by decide); omega) (by have := (show (0 : Int32).toInt = 0 by decide); omega)

set_option maxRecDepth 20000 in
theorem tz_X3_addEndings (l : Launch) (G : Gl) (ad : Nat → Nat) {k : Nat} {Z : (Nat → va_E) → Prop} {Y : Nat → Int32 → (Nat → va_E) → Prop} {E0 E : Nat → va_E} (hJ : JZ l G ad k Z Y E0 E) (i : Int32) (hi : (0 : Int) ≤ i.toInt ∧ i.toInt ≤ 9) (x : Int32) (y : Int32) : CtV l G yX3_addEndings cX3_addEndings 5 1 24 (98 + 9 * k) ad E [.ref (ad 51), .int i, .int x, .int y] (fun E' => JZ l G ad k Z Y E0 E') := by
  refine CtV.of (by decide) (Nat.le_of_ble_eq_true rfl) (fun X A C => ?_)
  refine v_sub (lv' := [(0, .ref (ad 51)), (1, .int i), (2, .int x), (3, .int y)]) [0, 1, 2, 3] rfl ?_
  have hk5 := hJ.1.1
  refine v_iconst (v := 0) C dX3_addEndings_0 (by decide) ?_
  refine v_istore (lv' := [(0, .ref (ad 51)), (1, .int i), (2, .int x), (3, .int y), (4, .int 0)]) C [1, 2, 3, 4, 0] dX3_addEndings_1 (by decide) rfl ?_
  have LP1 : ∀ (t : Nat) (E3 : Nat → va_E) (y2 : Int32), JZ l G ad k Z Y E0 E3 → ((0 : Int) ≤ y2.toInt ∧ y2.toInt ≤ 3) → 4 - y2.toInt < (t : Int) → V X G A 5 (QV X G A (98 + 9 * k) ad (fun E' => JZ l G ad k Z Y E0 E')) (98 + 9 * k) ad 0 0 E3 3 [(0, .ref (ad 51)), (1, .int i), (2, .int x), (3, .int y), (4, .int y2)] [] := by
    intro t7
    induction t7 with
    | zero => intro E3 y2 hJ4 hy2 hm6; exfalso; omega
    | succ t7 ih5 =>
      intro E3 y2 hJ4 hy2 hm6
      refine v_iload C 4 dX3_addEndings_3 rfl ?_
      refine v_gnY C dX3_addEndings_5 (List.mem_of_getElem? (i := 1) rfl) ?_
      refine v_bipush (v := 7) C dX3_addEndings_8 (by decide) ?_
      refine v_lstY (v := 2) C dX3_addEndings_10 (ti_in (show (7 : Int32).toInt = 7 by decide) (by omega) (by omega)) (by decide) ?_
      refine b_icmp_gt C 36 dX3_addEndings_11 (by decide) (rfl : Int32.toInt y2 = _) (show (2 : Int32).toInt = 2 by decide) (fun c8 => ?_) (fun c8 => ?_)
      · exact v_vret C dX3_addEndings_36 rfl hJ4
      · refine v_iload C 4 dX3_addEndings_14 rfl ?_
        refine v_iload_n C 3 dX3_addEndings_16 rfl rfl ?_
        refine b_icmp_eq C 30 dX3_addEndings_17 (by decide) (rfl : Int32.toInt y2 = _) (rfl : Int32.toInt y = _) (fun c9 => ?_) (fun c9 => ?_)
        · obtain ⟨x10, ex10⟩ : ∃ y : Int32, y = y2 + 1 := ⟨_, rfl⟩
          have hx10 : x10.toInt = (y2.toInt + 1) := by rw [ex10]; exact ti_add (rfl : Int32.toInt y2 = _) (show (1 : Int32).toInt = 1 by decide) (by omega) (by omega)
          refine v_iinc (v := x10) (lv' := [(0, .ref (ad 51)), (1, .int i), (2, .int x), (3, .int y), (4, .int x10)]) C 4 [1, 2, 3, 4, 0] dX3_addEndings_30 rfl (ex10.symm) (by decide) rfl ?_
          refine v_goto C 3 dX3_addEndings_33 (by decide) ?_
          exact ih5 _ x10 hJ4 (by have := hx10; omega) (by have := hx10; omega)
        · refine v_aload_n C 0 dX3_addEndings_20 rfl rfl ?_
          refine v_iload_n C 1 dX3_addEndings_21 rfl rfl ?_
          refine v_bipush (v := 7) C dX3_addEndings_22 (by decide) ?_
          refine v_iload_n C 2 dX3_addEndings_24 rfl rfl ?_
          refine v_iload C 4 dX3_addEndings_25 rfl ?_
          obtain ⟨i15, hE15, hb15⟩ := hJ4.1.2.2.getO (b := 51) (by omega) rfl
          refine v_cVv C dX3_addEndings_27 lX3_102 mX3_addEdit 51 (by omega) hE15 (by decide) rfl (tz_X3_addEdit l G ad hJ4 i (show (0 : Int) ≤ Int32.toInt i ∧ Int32.toInt i ≤ 9 by omega) 7 x y2) ⟨by decide, by decide⟩ rfl (Nat.le_of_ble_eq_true rfl) ⟨Nat.zero_le _, Nat.zero_le _⟩ (fun E12 hJ14 => ?_)
          obtain ⟨x16, ex16⟩ : ∃ y : Int32, y = y2 + 1 := ⟨_, rfl⟩
          have hx16 : x16.toInt = (y2.toInt + 1) := by rw [ex16]; exact ti_add (rfl : Int32.toInt y2 = _) (show (1 : Int32).toInt = 1 by decide) (by omega) (by omega)
          refine v_iinc (v := x16) (lv' := [(0, .ref (ad 51)), (1, .int i), (2, .int x), (3, .int y), (4, .int x16)]) C 4 [1, 2, 3, 4, 0] dX3_addEndings_30 rfl (ex16.symm) (by decide) rfl ?_
          refine v_goto C 3 dX3_addEndings_33 (by decide) ?_
          exact ih5 _ x16 hJ14 (by have := hx16; omega) (by have := hx16; omega)
  exact LP1 100000 _ 0 hJ (by have := (show (0 : Int32).toInt = 0 by decide); omega) (by have := (show (0 : Int32).toInt = 0 by decide); omega)

set_option maxRecDepth 20000 in
theorem tz_X3_listEdits (l : Launch) (G : Gl) (ad : Nat → Nat) {k : Nat} {Z : (Nat → va_E) → Prop} {Y : Nat → Int32 → (Nat → va_E) → Prop} {E0 E : Nat → va_E} (hJ : JZ l G ad k Z Y E0 E) (c : Nat) (hc : PC c) (hcl : c < 45) : CtV l G yX3_listEdits cX3_listEdits 5 2 49 (98 + 9 * k) ad E [.ref (ad 51), .ref (ad c)] (fun E' => JZ l G ad k Z Y E0 E') := by
  refine CtV.of (by decide) (Nat.le_of_ble_eq_true rfl) (fun X A C => ?_)
  refine v_sub (lv' := [(0, .ref (ad 51)), (1, .ref (ad c))]) [0, 1] rfl ?_
  have hk5 := hJ.1.1
  have hcn := hc.n
  refine v_aload_n C 0 dX3_listEdits_0 rfl rfl ?_
  refine v_iconst (v := 0) C dX3_listEdits_1 (by decide) ?_
  obtain ⟨i1, hE1, hb1⟩ := hJ.1.2.2.getO (b := 51) (by omega) rfl
  refine v_puti C 51 dX3_listEdits_2 fX3_72 (by omega) hE1 rfl rfl rfl rfl (fun E2 hE2_51 oE2 => ?_)
  obtain ⟨hJ3, hb4⟩ := hJ.1.2.2.setO rfl (by unfold P8; omega) hb1 (k := 8) (show (0 : Int) ≤ Int32.toInt 0 ∧ Int32.toInt 0 ≤ 50 by decide) hE2_51 oE2
  have hJ3 := hJ.with hJ3 (fun j hj => oE2 j (by omega))
  refine v_iconst (v := 0) C dX3_listEdits_5 (by decide) ?_
  refine v_istore_n (lv' := [(0, .ref (ad 51)), (1, .ref (ad c)), (2, .int 0)]) C [1, 2, 0] dX3_listEdits_6 rfl (by decide) rfl ?_
  have LP5 : ∀ (t : Nat) (E7 : Nat → va_E) (y6 : Int32), JZ l G ad k Z Y E0 E7 → ((0 : Int) ≤ y6.toInt ∧ y6.toInt ≤ 10) → 11 - y6.toInt < (t : Int) → V X G A 5 (QV X G A (98 + 9 * k) ad (fun E' => JZ l G ad k Z Y E0 E')) (98 + 9 * k) ad 0 0 E7 7 [(0, .ref (ad 51)), (1, .ref (ad c)), (2, .int y6)] [] := by
    intro t11
    induction t11 with
    | zero => intro E7 y6 hJ8 hy6 hm10; exfalso; omega
    | succ t11 ih9 =>
      intro E7 y6 hJ8 hy6 hm10
      refine v_iload_n C 2 dX3_listEdits_7 rfl rfl ?_
      refine v_aload_n C 1 dX3_listEdits_8 rfl rfl ?_
      obtain ⟨i12, hE12, hb12⟩ := hJ8.1.2.2.getO (b := c) (by omega) (hc.t0 k)
      refine v_geti (v := i12 6) C c dX3_listEdits_9 fX3_99 (by omega) hE12 rfl rfl ?_
      have hi12_6 : (0 : Int) ≤ (i12 6).toInt ∧ (i12 6).toInt ≤ 10 := hb12 6
      refine b_icmp_ge C 191 dX3_listEdits_12 (by decide) (rfl : Int32.toInt y6 = _) (rfl : Int32.toInt (i12 6) = _) (fun c13 => ?_) (fun c13 => ?_)
      · exact v_vret C dX3_listEdits_191 rfl hJ8
      · have JN14 : ∀ (E15 : Nat → va_E) , JZ l G ad k Z Y E0 E15 → V X G A 5 (QV X G A (98 + 9 * k) ad (fun E' => JZ l G ad k Z Y E0 E')) (98 + 9 * k) ad 0 0 E15 185 [(0, .ref (ad 51)), (1, .ref (ad c)), (2, .int y6)] [] := by
          intro E15  hJ16
          obtain ⟨x17, ex17⟩ : ∃ y : Int32, y = y6 + 1 := ⟨_, rfl⟩
          have hx17 : x17.toInt = (y6.toInt + 1) := by rw [ex17]; exact ti_add (rfl : Int32.toInt y6 = _) (show (1 : Int32).toInt = 1 by decide) (by omega) (by omega)
          refine v_iinc (v := x17) (lv' := [(0, .ref (ad 51)), (1, .ref (ad c)), (2, .int x17)]) C 2 [1, 2, 0] dX3_listEdits_185 rfl (ex17.symm) (by decide) rfl ?_
          refine v_goto C 7 dX3_listEdits_188 (by decide) ?_
          exact ih9 _ x17 hJ16 (by have := hx17; omega) (by have := hx17; omega)
        refine v_aload_n C 1 dX3_listEdits_15 rfl rfl ?_
        refine v_getr C c dX3_listEdits_16 fX3_93 (by omega) hE12 rfl rfl ?_
        refine v_iload_n C 2 dX3_listEdits_19 rfl rfl ?_
        obtain ⟨f18, hE18, hb18⟩ := hJ8.1.2.2.getA (b := (c + 2)) (by omega) (hc.t2 k)
        refine v_ald (v := f18 (y6.toInt).toNat) C (c + 2) dX3_listEdits_20 (by omega) hE18 (ti_in (rfl : Int32.toInt y6 = _) (by omega) (by omega)) (by rw [ti_cl (rfl : Int32.toInt y6 = _)]) ?_
        refine v_top (fun x19 _ => ?_)
        refine v_istore_n (lv' := [(0, .ref (ad 51)), (1, .ref (ad c)), (2, .int y6), (3, .int x19)]) C [1, 2, 3, 0] dX3_listEdits_21 rfl (by decide) rfl ?_
        refine v_aload_n C 1 dX3_listEdits_22 rfl rfl ?_
        refine v_getr C c dX3_listEdits_23 fX3_96 (by omega) hE12 rfl rfl ?_
        refine v_iload_n C 2 dX3_listEdits_26 rfl rfl ?_
        obtain ⟨f20, hE20, hb20⟩ := hJ8.1.2.2.getA (b := (c + 3)) (by omega) (hc.t3 k)
        refine v_ald (v := f20 (y6.toInt).toNat) C (c + 3) dX3_listEdits_27 (by omega) hE20 (ti_in (rfl : Int32.toInt y6 = _) (by omega) (by omega)) (by rw [ti_cl (rfl : Int32.toInt y6 = _)]) ?_
        refine v_top (fun x21 _ => ?_)
        refine v_istore (lv' := [(0, .ref (ad 51)), (1, .ref (ad c)), (2, .int y6), (3, .int x19), (4, .int x21)]) C [1, 2, 3, 4, 0] dX3_listEdits_28 (by decide) rfl ?_
        refine v_aload_n C 1 dX3_listEdits_30 rfl rfl ?_
        refine v_getr C c dX3_listEdits_31 fX3_90 (by omega) hE12 rfl rfl ?_
        refine v_iload_n C 2 dX3_listEdits_34 rfl rfl ?_
        obtain ⟨f22, hE22, hb22⟩ := hJ8.1.2.2.getA (b := (c + 1)) (by omega) (hc.t1 k)
        refine v_ald (v := f22 (y6.toInt).toNat) C (c + 1) dX3_listEdits_35 (by omega) hE22 (ti_in (rfl : Int32.toInt y6 = _) (by omega) (by omega)) (by rw [ti_cl (rfl : Int32.toInt y6 = _)]) ?_
        refine v_top (fun x23 _ => ?_)
        have q24v : Int32.toInt x23 = x23.toInt := (rfl : Int32.toInt x23 = _)
        rcases (show x23.toInt = 1 ∨ x23.toInt = 2 ∨ x23.toInt = 3 ∨ x23.toInt = 4 ∨ x23.toInt = 5 ∨ x23.toInt = 6 ∨ x23.toInt = 7 ∨ (x23.toInt < 1 ∨ 7 < x23.toInt) by omega) with q24 | q24 | q24 | q24 | q24 | q24 | q24 | q24
        · refine v_tableIn (off := 67) C 103 dX3_listEdits_36 (by omega) (by omega) (by rw [q24v, q24]; rfl) (by decide) ?_
          refine v_aload_n C 0 dX3_listEdits_103 rfl rfl ?_
          refine v_iload_n C 2 dX3_listEdits_104 rfl rfl ?_
          refine v_iconst (v := 1) C dX3_listEdits_105 (by decide) ?_
          refine v_iload_n C 3 dX3_listEdits_106 rfl rfl ?_
          refine v_iload C 4 dX3_listEdits_107 rfl ?_
          obtain ⟨i29, hE29, hb29⟩ := hJ8.1.2.2.getO (b := 51) (by omega) rfl
          refine v_cVv C dX3_listEdits_109 lX3_105 mX3_addZones 51 (by omega) hE29 (by decide) rfl (tz_X3_addZones l G ad hJ8 y6 (show (0 : Int) ≤ Int32.toInt y6 ∧ Int32.toInt y6 ≤ 9 by omega) 1 x19 x21) ⟨by decide, by decide⟩ rfl (Nat.le_of_ble_eq_true rfl) ⟨Nat.zero_le _, Nat.zero_le _⟩ (fun E26 hJ28 => ?_)
          refine v_goto C 185 dX3_listEdits_112 (by decide) ?_
          refine v_sub (lv' := [(0, .ref (ad 51)), (1, .ref (ad c)), (2, .int y6)]) [0, 1, 2] rfl ?_
          exact JN14 _ hJ28 
        · refine v_tableIn (off := 149) C 185 dX3_listEdits_36 (by omega) (by omega) (by rw [q24v, q24]; rfl) (by decide) ?_
          refine v_sub (lv' := [(0, .ref (ad 51)), (1, .ref (ad c)), (2, .int y6)]) [0, 1, 2] rfl ?_
          exact JN14 _ hJ8 
        · refine v_tableIn (off := 149) C 185 dX3_listEdits_36 (by omega) (by omega) (by rw [q24v, q24]; rfl) (by decide) ?_
          refine v_sub (lv' := [(0, .ref (ad 51)), (1, .ref (ad c)), (2, .int y6)]) [0, 1, 2] rfl ?_
          exact JN14 _ hJ8 
        · refine v_tableIn (off := 44) C 80 dX3_listEdits_36 (by omega) (by omega) (by rw [q24v, q24]; rfl) (by decide) ?_
          refine v_aload_n C 0 dX3_listEdits_80 rfl rfl ?_
          refine v_iload_n C 2 dX3_listEdits_81 rfl rfl ?_
          refine v_iconst (v := 4) C dX3_listEdits_82 (by decide) ?_
          refine v_iload_n C 3 dX3_listEdits_83 rfl rfl ?_
          refine v_iconst (v := 1) C dX3_listEdits_84 (by decide) ?_
          refine v_iload C 4 dX3_listEdits_85 rfl ?_
          refine v_isub C dX3_listEdits_87 ?_
          refine v_top (fun x30 _ => ?_)
          obtain ⟨i35, hE35, hb35⟩ := hJ8.1.2.2.getO (b := 51) (by omega) rfl
          refine v_cVv C dX3_listEdits_88 lX3_102 mX3_addEdit 51 (by omega) hE35 (by decide) rfl (tz_X3_addEdit l G ad hJ8 y6 (show (0 : Int) ≤ Int32.toInt y6 ∧ Int32.toInt y6 ≤ 9 by omega) 4 x19 x30) ⟨by decide, by decide⟩ rfl (Nat.le_of_ble_eq_true rfl) ⟨Nat.zero_le _, Nat.zero_le _⟩ (fun E32 hJ34 => ?_)
          refine v_aload_n C 0 dX3_listEdits_91 rfl rfl ?_
          refine v_iload_n C 2 dX3_listEdits_92 rfl rfl ?_
          refine v_iconst (v := 4) C dX3_listEdits_93 (by decide) ?_
          refine v_iload_n C 3 dX3_listEdits_94 rfl rfl ?_
          refine v_iload C 4 dX3_listEdits_95 rfl ?_
          obtain ⟨i40, hE40, hb40⟩ := hJ34.1.2.2.getO (b := 51) (by omega) rfl
          refine v_cVv C dX3_listEdits_97 lX3_105 mX3_addZones 51 (by omega) hE40 (by decide) rfl (tz_X3_addZones l G ad hJ34 y6 (show (0 : Int) ≤ Int32.toInt y6 ∧ Int32.toInt y6 ≤ 9 by omega) 4 x19 x21) ⟨by decide, by decide⟩ rfl (Nat.le_of_ble_eq_true rfl) ⟨Nat.zero_le _, Nat.zero_le _⟩ (fun E37 hJ39 => ?_)
          refine v_goto C 185 dX3_listEdits_100 (by decide) ?_
          refine v_sub (lv' := [(0, .ref (ad 51)), (1, .ref (ad c)), (2, .int y6)]) [0, 1, 2] rfl ?_
          exact JN14 _ hJ39 
        · refine v_tableIn (off := 79) C 115 dX3_listEdits_36 (by omega) (by omega) (by rw [q24v, q24]; rfl) (by decide) ?_
          refine v_iload_n C 3 dX3_listEdits_115 rfl rfl ?_
          refine b_if_eq C 185 dX3_listEdits_116 (by decide) (rfl : Int32.toInt x19 = _) (fun c41 => ?_) (fun c41 => ?_)
          · refine v_sub (lv' := [(0, .ref (ad 51)), (1, .ref (ad c)), (2, .int y6)]) [0, 1, 2] rfl ?_
            exact JN14 _ hJ8 
          · refine v_iload_n C 3 dX3_listEdits_119 rfl rfl ?_
            refine v_sipush (v := 1440) C dX3_listEdits_120 (by decide) ?_
            refine v_irem C dX3_listEdits_123 (by decide) ?_
            refine v_top (fun x42 _ => ?_)
            refine b_if_ne C 185 dX3_listEdits_124 (by decide) (rfl : Int32.toInt x42 = _) (fun c43 => ?_) (fun c43 => ?_)
            · refine v_sub (lv' := [(0, .ref (ad 51)), (1, .ref (ad c)), (2, .int y6)]) [0, 1, 2] rfl ?_
              exact JN14 _ hJ8 
            · refine v_aload_n C 0 dX3_listEdits_127 rfl rfl ?_
              refine v_iload_n C 2 dX3_listEdits_128 rfl rfl ?_
              refine v_bipush (v := 6) C dX3_listEdits_129 (by decide) ?_
              refine v_iload_n C 3 dX3_listEdits_131 rfl rfl ?_
              refine v_sipush (v := 1440) C dX3_listEdits_132 (by decide) ?_
              refine v_idiv C dX3_listEdits_135 (by decide) ?_
              refine v_top (fun x44 ex44 => ?_)
              have hx44 : (-1491308 : Int) ≤ x44.toInt ∧ x44.toInt ≤ 1491308 := by rw [ex44]; exact ti_tdb (show (1440 : Int32).toInt = 1440 by decide) (by decide)
              refine v_iconst (v := 0) C dX3_listEdits_136 (by decide) ?_
              obtain ⟨i49, hE49, hb49⟩ := hJ8.1.2.2.getO (b := 51) (by omega) rfl
              refine v_cVv C dX3_listEdits_137 lX3_102 mX3_addEdit 51 (by omega) hE49 (by decide) rfl (tz_X3_addEdit l G ad hJ8 y6 (show (0 : Int) ≤ Int32.toInt y6 ∧ Int32.toInt y6 ≤ 9 by omega) 6 x44 0) ⟨by decide, by decide⟩ rfl (Nat.le_of_ble_eq_true rfl) ⟨Nat.zero_le _, Nat.zero_le _⟩ (fun E46 hJ48 => ?_)
              refine v_goto C 185 dX3_listEdits_140 (by decide) ?_
              refine v_sub (lv' := [(0, .ref (ad 51)), (1, .ref (ad c)), (2, .int y6)]) [0, 1, 2] rfl ?_
              exact JN14 _ hJ48 
        · refine v_tableIn (off := 107) C 143 dX3_listEdits_36 (by omega) (by omega) (by rw [q24v, q24]; rfl) (by decide) ?_
          refine v_iload_n C 3 dX3_listEdits_143 rfl rfl ?_
          refine v_cSp C dX3_listEdits_144 lX3_108 mJ9_abs_0f7a4 (t_J9_abs_0f7a4 l G ad hJ8.1 x19) ⟨by decide, by decide⟩ rfl (Nat.le_of_ble_eq_true rfl) ⟨Nat.zero_le _, Nat.zero_le _⟩ (fun r50 hp51 => ?_)
          refine v_sipush (v := 1440) C dX3_listEdits_147 (by decide) ?_
          refine v_imul C dX3_listEdits_150 ?_
          refine v_top (fun x52 _ => ?_)
          refine v_gnX C dX3_listEdits_151 (List.mem_of_getElem? (i := 0) rfl) ?_
          refine v_iconst (v := 5) C dX3_listEdits_154 (by decide) ?_
          refine v_lstX (v := 9999) C dX3_listEdits_155 (ti_in (show (5 : Int32).toInt = 5 by decide) (by omega) (by omega)) (by decide) ?_
          refine b_icmp_gt C 185 dX3_listEdits_156 (by decide) (rfl : Int32.toInt x52 = _) (show (9999 : Int32).toInt = 9999 by decide) (fun c53 => ?_) (fun c53 => ?_)
          · refine v_sub (lv' := [(0, .ref (ad 51)), (1, .ref (ad c)), (2, .int y6)]) [0, 1, 2] rfl ?_
            exact JN14 _ hJ8 
          · refine v_aload_n C 0 dX3_listEdits_159 rfl rfl ?_
            refine v_iload_n C 2 dX3_listEdits_160 rfl rfl ?_
            refine v_iconst (v := 5) C dX3_listEdits_161 (by decide) ?_
            refine v_iload_n C 3 dX3_listEdits_162 rfl rfl ?_
            refine v_sipush (v := 1440) C dX3_listEdits_163 (by decide) ?_
            refine v_imul C dX3_listEdits_166 ?_
            refine v_top (fun x54 _ => ?_)
            refine v_iconst (v := 0) C dX3_listEdits_167 (by decide) ?_
            obtain ⟨i59, hE59, hb59⟩ := hJ8.1.2.2.getO (b := 51) (by omega) rfl
            refine v_cVv C dX3_listEdits_168 lX3_102 mX3_addEdit 51 (by omega) hE59 (by decide) rfl (tz_X3_addEdit l G ad hJ8 y6 (show (0 : Int) ≤ Int32.toInt y6 ∧ Int32.toInt y6 ≤ 9 by omega) 5 x54 0) ⟨by decide, by decide⟩ rfl (Nat.le_of_ble_eq_true rfl) ⟨Nat.zero_le _, Nat.zero_le _⟩ (fun E56 hJ58 => ?_)
            refine v_goto C 185 dX3_listEdits_171 (by decide) ?_
            refine v_sub (lv' := [(0, .ref (ad 51)), (1, .ref (ad c)), (2, .int y6)]) [0, 1, 2] rfl ?_
            exact JN14 _ hJ58 
        · refine v_tableIn (off := 138) C 174 dX3_listEdits_36 (by omega) (by omega) (by rw [q24v, q24]; rfl) (by decide) ?_
          refine v_aload_n C 0 dX3_listEdits_174 rfl rfl ?_
          refine v_iload_n C 2 dX3_listEdits_175 rfl rfl ?_
          refine v_iload_n C 3 dX3_listEdits_176 rfl rfl ?_
          refine v_iload C 4 dX3_listEdits_177 rfl ?_
          obtain ⟨i64, hE64, hb64⟩ := hJ8.1.2.2.getO (b := 51) (by omega) rfl
          refine v_cVv C dX3_listEdits_179 lX3_116 mX3_addEndings 51 (by omega) hE64 (by decide) rfl (tz_X3_addEndings l G ad hJ8 y6 (show (0 : Int) ≤ Int32.toInt y6 ∧ Int32.toInt y6 ≤ 9 by omega) x19 x21) ⟨by decide, by decide⟩ rfl (Nat.le_of_ble_eq_true rfl) ⟨Nat.zero_le _, Nat.zero_le _⟩ (fun E61 hJ63 => ?_)
          refine v_goto C 185 dX3_listEdits_182 (by decide) ?_
          refine v_sub (lv' := [(0, .ref (ad 51)), (1, .ref (ad c)), (2, .int y6)]) [0, 1, 2] rfl ?_
          exact JN14 _ hJ63 
        · refine v_tableOut C 185 dX3_listEdits_36 (by omega) (by decide) ?_
          refine v_sub (lv' := [(0, .ref (ad 51)), (1, .ref (ad c)), (2, .int y6)]) [0, 1, 2] rfl ?_
          exact JN14 _ hJ8 
  exact LP5 100000 _ 0 hJ3 (by have := (show (0 : Int32).toInt = 0 by decide); omega) (by have := (show (0 : Int32).toInt = 0 by decide); omega)

set_option maxRecDepth 20000 in
theorem tz_X3_put (l : Launch) (G : Gl) (ad : Nat → Nat) {k : Nat} {Z : (Nat → va_E) → Prop} {Y : Nat → Int32 → (Nat → va_E) → Prop} {E0 E : Nat → va_E} (hJ : JZ l G ad k Z Y E0 E) (x : Int32) (hx : (0 : Int) ≤ x.toInt ∧ x.toInt ≤ 49) : CtV l G yX3_put cX3_put 2 4 92 (98 + 9 * k) ad E [.ref (ad 51), .int x] (fun E' => JZ l G ad k Z Y E0 E') := by
  refine CtV.of (by decide) (Nat.le_of_ble_eq_true rfl) (fun X A C => ?_)
  refine v_sub (lv' := [(0, .ref (ad 51)), (1, .int x)]) [0, 1] rfl ?_
  have hk5 := hJ.1.1
  refine v_aload_n C 0 dX3_put_0 rfl rfl ?_
  obtain ⟨i1, hE1, hb1⟩ := hJ.1.2.2.getO (b := 51) (by omega) rfl
  refine v_getr C 51 dX3_put_1 fX3_12 (by omega) hE1 rfl rfl ?_
  refine v_aload_n C 0 dX3_put_4 rfl rfl ?_
  refine v_getr C 51 dX3_put_5 fX3_21 (by omega) hE1 rfl rfl ?_
  refine v_iload_n C 1 dX3_put_8 rfl rfl ?_
  obtain ⟨f2, hE2, hb2⟩ := hJ.1.2.2.getA (b := 64) (by omega) rfl
  refine v_ald (v := f2 (x.toInt).toNat) C 64 dX3_put_9 (by omega) hE2 (ti_in (rfl : Int32.toInt x = _) (by omega) (by omega)) (by rw [ti_cl (rfl : Int32.toInt x = _)]) ?_
  refine v_top (fun x3 ex3 => ?_)
  have hx3 : (0 : Int) ≤ x3.toInt ∧ x3.toInt ≤ 9 := by rw [ex3]; exact hb2 _
  refine v_aload_n C 0 dX3_put_10 rfl rfl ?_
  refine v_getr C 51 dX3_put_11 fX3_25 (by omega) hE1 rfl rfl ?_
  refine v_iload_n C 1 dX3_put_14 rfl rfl ?_
  obtain ⟨f4, hE4, hb4⟩ := hJ.1.2.2.getA (b := 65) (by omega) rfl
  refine v_ald (v := f4 (x.toInt).toNat) C 65 dX3_put_15 (by omega) hE4 (ti_in (rfl : Int32.toInt x = _) (by omega) (by omega)) (by rw [ti_cl (rfl : Int32.toInt x = _)]) ?_
  refine v_top (fun x5 _ => ?_)
  refine v_aload_n C 0 dX3_put_16 rfl rfl ?_
  refine v_getr C 51 dX3_put_17 fX3_28 (by omega) hE1 rfl rfl ?_
  refine v_iload_n C 1 dX3_put_20 rfl rfl ?_
  obtain ⟨f6, hE6, hb6⟩ := hJ.1.2.2.getA (b := 66) (by omega) rfl
  refine v_ald (v := f6 (x.toInt).toNat) C 66 dX3_put_21 (by omega) hE6 (ti_in (rfl : Int32.toInt x = _) (by omega) (by omega)) (by rw [ti_cl (rfl : Int32.toInt x = _)]) ?_
  refine v_top (fun x7 _ => ?_)
  refine v_aload_n C 0 dX3_put_22 rfl rfl ?_
  refine v_getr C 51 dX3_put_23 fX3_31 (by omega) hE1 rfl rfl ?_
  refine v_iload_n C 1 dX3_put_26 rfl rfl ?_
  obtain ⟨f8, hE8, hb8⟩ := hJ.1.2.2.getA (b := 67) (by omega) rfl
  refine v_ald (v := f8 (x.toInt).toNat) C 67 dX3_put_27 (by omega) hE8 (ti_in (rfl : Int32.toInt x = _) (by omega) (by omega)) (by rw [ti_cl (rfl : Int32.toInt x = _)]) ?_
  refine v_top (fun x9 _ => ?_)
  obtain ⟨sz10, hW10, hs10, ht10⟩ := hJ.pg pc52
  obtain ⟨i14, hE14, hb14⟩ := hJ.1.2.2.getO (b := 52) (by omega) (pc52.t0 k)
  refine v_cVv C dX3_put_28 lX3_86 mX5_replace 52 (by omega) hE14 (by decide) rfl (c_replace l G _ ad _ 52 (by omega) hW10 hs10 ht10 x3 x5 x7 x9) ⟨by decide, by decide⟩ rfl (Nat.le_of_ble_eq_true rfl) ⟨Nat.zero_le _, Nat.zero_le _⟩ (fun E11 hq12 => ?_)
  have hJ13 := hJ.setP (by decide) hq12.1 hs10 ht10 hq12.2
  exact v_vret C dX3_put_31 rfl hJ13

set_option maxRecDepth 20000 in
theorem tz_X3_undo (l : Launch) (G : Gl) (ad : Nat → Nat) {k : Nat} {Z : (Nat → va_E) → Prop} {Y : Nat → Int32 → (Nat → va_E) → Prop} {E0 E : Nat → va_E} (hJ : JZ l G ad k Z Y E0 E) (c : Nat) (hc : PC c) (hcl : c < 45) (x : Int32) (hx : (0 : Int) ≤ x.toInt ∧ x.toInt ≤ 49) : CtV l G yX3_undo cX3_undo 4 4 92 (98 + 9 * k) ad E [.ref (ad 51), .ref (ad c), .int x] (fun E' => JZ l G ad k Z Y E0 E') := by
  refine CtV.of (by decide) (Nat.le_of_ble_eq_true rfl) (fun X A C => ?_)
  refine v_sub (lv' := [(0, .ref (ad 51)), (1, .ref (ad c)), (2, .int x)]) [0, 1, 2] rfl ?_
  have hk5 := hJ.1.1
  have hcn := hc.n
  refine v_aload_n C 0 dX3_undo_0 rfl rfl ?_
  obtain ⟨i1, hE1, hb1⟩ := hJ.1.2.2.getO (b := 51) (by omega) rfl
  refine v_getr C 51 dX3_undo_1 fX3_21 (by omega) hE1 rfl rfl ?_
  refine v_iload_n C 2 dX3_undo_4 rfl rfl ?_
  obtain ⟨f2, hE2, hb2⟩ := hJ.1.2.2.getA (b := 64) (by omega) rfl
  refine v_ald (v := f2 (x.toInt).toNat) C 64 dX3_undo_5 (by omega) hE2 (ti_in (rfl : Int32.toInt x = _) (by omega) (by omega)) (by rw [ti_cl (rfl : Int32.toInt x = _)]) ?_
  refine v_top (fun x3 ex3 => ?_)
  have hx3 : (0 : Int) ≤ x3.toInt ∧ x3.toInt ≤ 9 := by rw [ex3]; exact hb2 _
  refine v_istore_n (lv' := [(0, .ref (ad 51)), (1, .ref (ad c)), (2, .int x), (3, .int x3)]) C [1, 2, 3, 0] dX3_undo_6 rfl (by decide) rfl ?_
  refine v_aload_n C 0 dX3_undo_7 rfl rfl ?_
  refine v_getr C 51 dX3_undo_8 fX3_12 (by omega) hE1 rfl rfl ?_
  refine v_iload_n C 3 dX3_undo_11 rfl rfl ?_
  refine v_aload_n C 1 dX3_undo_12 rfl rfl ?_
  obtain ⟨i4, hE4, hb4⟩ := hJ.1.2.2.getO (b := c) (by omega) (hc.t0 k)
  refine v_getr C c dX3_undo_13 fX3_90 (by omega) hE4 rfl rfl ?_
  refine v_iload_n C 3 dX3_undo_16 rfl rfl ?_
  obtain ⟨f5, hE5, hb5⟩ := hJ.1.2.2.getA (b := (c + 1)) (by omega) (hc.t1 k)
  refine v_ald (v := f5 (x3.toInt).toNat) C (c + 1) dX3_undo_17 (by omega) hE5 (ti_in (rfl : Int32.toInt x3 = _) (by omega) (by omega)) (by rw [ti_cl (rfl : Int32.toInt x3 = _)]) ?_
  refine v_top (fun x6 _ => ?_)
  refine v_aload_n C 1 dX3_undo_18 rfl rfl ?_
  refine v_getr C c dX3_undo_19 fX3_93 (by omega) hE4 rfl rfl ?_
  refine v_iload_n C 3 dX3_undo_22 rfl rfl ?_
  obtain ⟨f7, hE7, hb7⟩ := hJ.1.2.2.getA (b := (c + 2)) (by omega) (hc.t2 k)
  refine v_ald (v := f7 (x3.toInt).toNat) C (c + 2) dX3_undo_23 (by omega) hE7 (ti_in (rfl : Int32.toInt x3 = _) (by omega) (by omega)) (by rw [ti_cl (rfl : Int32.toInt x3 = _)]) ?_
  refine v_top (fun x8 _ => ?_)
  refine v_aload_n C 1 dX3_undo_24 rfl rfl ?_
  refine v_getr C c dX3_undo_25 fX3_96 (by omega) hE4 rfl rfl ?_
  refine v_iload_n C 3 dX3_undo_28 rfl rfl ?_
  obtain ⟨f9, hE9, hb9⟩ := hJ.1.2.2.getA (b := (c + 3)) (by omega) (hc.t3 k)
  refine v_ald (v := f9 (x3.toInt).toNat) C (c + 3) dX3_undo_29 (by omega) hE9 (ti_in (rfl : Int32.toInt x3 = _) (by omega) (by omega)) (by rw [ti_cl (rfl : Int32.toInt x3 = _)]) ?_
  refine v_top (fun x10 _ => ?_)
  obtain ⟨sz11, hW11, hs11, ht11⟩ := hJ.pg pc52
  obtain ⟨i15, hE15, hb15⟩ := hJ.1.2.2.getO (b := 52) (by omega) (pc52.t0 k)
  refine v_cVv C dX3_undo_30 lX3_86 mX5_replace 52 (by omega) hE15 (by decide) rfl (c_replace l G _ ad _ 52 (by omega) hW11 hs11 ht11 x3 x6 x8 x10) ⟨by decide, by decide⟩ rfl (Nat.le_of_ble_eq_true rfl) ⟨Nat.zero_le _, Nat.zero_le _⟩ (fun E12 hq13 => ?_)
  have hJ14 := hJ.setP (by decide) hq13.1 hs11 ht11 hq13.2
  exact v_vret C dX3_undo_33 rfl hJ14

set_option maxRecDepth 20000 in
theorem tz_X3_keepTrial (l : Launch) (G : Gl) (ad : Nat → Nat) {k : Nat} {Z : (Nat → va_E) → Prop} {Y : Nat → Int32 → (Nat → va_E) → Prop} {E0 E : Nat → va_E} (hJ : JZ l G ad k Z Y E0 E) (x : Int32) : CtI l G yX3_keepTrial cX3_keepTrial 2 .int 4 90 (98 + 9 * k) ad E [.ref (ad 51), .int x] (fun r E' => ((-2147483648 : Int) ≤ r.toInt ∧ r.toInt ≤ 2147483647) ∧ JZ l G ad k Z Y E0 E') := by
  refine CtI.of (by decide) (Nat.le_of_ble_eq_true rfl) (fun X A C => ?_)
  refine v_sub (lv' := [(0, .ref (ad 51)), (1, .int x)]) [0, 1] rfl ?_
  have hk5 := hJ.1.1
  refine v_aload_n C 0 dX3_keepTrial_0 rfl rfl ?_
  obtain ⟨i1, hE1, hb1⟩ := hJ.1.2.2.getO (b := 51) (by omega) rfl
  refine v_getr C 51 dX3_keepTrial_1 fX3_18 (by omega) hE1 rfl rfl ?_
  refine v_aload_n C 0 dX3_keepTrial_4 rfl rfl ?_
  refine v_getr C 51 dX3_keepTrial_5 fX3_12 (by omega) hE1 rfl rfl ?_
  obtain ⟨sz2, hW2, hs2, ht2⟩ := hJ.pg pc58
  obtain ⟨sz6, hW6, hs6, ht6⟩ := hJ.pg pc52
  obtain ⟨i7, hE7, hb7⟩ := hJ.1.2.2.getO (b := 58) (by omega) (pc58.t0 k)
  refine v_cVv C dX3_keepTrial_8 lX3_57 mX5_copyFrom 58 (by omega) hE7 (by decide) rfl (c_copyFrom l G _ ad _ 58 52 (by omega) (by omega) (by omega) hW2 hW6 hs6 ht6) ⟨by decide, by decide⟩ rfl (Nat.le_of_ble_eq_true rfl) ⟨Nat.zero_le _, Nat.zero_le _⟩ (fun E3 hq4 => ?_)
  have hJ5 := hJ.setP (by decide) hq4.1 hs6 ht6 hq4.2
  refine v_iload_n C 1 dX3_keepTrial_11 rfl rfl ?_
  exact v_ret C dX3_keepTrial_12 rfl rfl ⟨(ti_any x), hJ5⟩

set_option maxRecDepth 20000 in
theorem tz_X3_search (l : Launch) (G : Gl) (ad : Nat → Nat) {k : Nat} {Z : (Nat → va_E) → Prop} {Y : Nat → Int32 → (Nat → va_E) → Prop} {E0 E : Nat → va_E} (hJ : JZ l G ad k Z Y E0 E) (c : Nat) (hc : PC c) (hcl : c < 45) : CtI l G yX3_search cX3_search 4 .int 6 147 (98 + 9 * k) ad E [.ref (ad 51), .ref (ad c)] (fun r E' => ((-2147483648 : Int) ≤ r.toInt ∧ r.toInt ≤ 2147483647) ∧ JZ l G ad k Z Y E0 E') := by
  refine CtI.of (by decide) (Nat.le_of_ble_eq_true rfl) (fun X A C => ?_)
  refine v_sub (lv' := [(0, .ref (ad 51)), (1, .ref (ad c))]) [0, 1] rfl ?_
  have hk5 := hJ.1.1
  have hcn := hc.n
  refine v_aload_n C 0 dX3_search_0 rfl rfl ?_
  obtain ⟨i1, hE1, hb1⟩ := hJ.1.2.2.getO (b := 51) (by omega) rfl
  refine v_getr C 51 dX3_search_1 fX3_38 (by omega) hE1 rfl rfl ?_
  refine v_aload_n C 0 dX3_search_4 rfl rfl ?_
  refine v_getr C 51 dX3_search_5 fX3_38 (by omega) hE1 rfl rfl ?_
  obtain ⟨i2, hE2, hb2⟩ := hJ.1.2.2.getO (b := 48) (by omega) rfl
  refine v_getr C 48 dX3_search_8 fX3_42 (by omega) hE2 rfl rfl ?_
  obtain ⟨i3, hE3, hb3⟩ := hJ.1.2.2.getO (b := 45) (by omega) rfl
  refine v_geti (v := i3 3) C 45 dX3_search_11 fX3_48 (by omega) hE3 rfl rfl ?_
  refine v_puti C 48 dX3_search_14 fX3_54 (by omega) hE2 rfl rfl rfl rfl (fun E4 hE4_48 oE4 => ?_)
  have hE4_51 := (oE4 51 (by decide)).trans hE1
  have hE4_45 := (oE4 45 (by decide)).trans hE3
  obtain ⟨hJ5, hb6⟩ := hJ.1.2.2.setO rfl (by unfold P8; omega) hb2 (k := 7) (ti_any (i3 3)) hE4_48 oE4
  have hJ5 := hJ.with hJ5 (fun j hj => oE4 j (by omega))
  refine v_aload_n C 0 dX3_search_17 rfl rfl ?_
  refine v_getr C 51 dX3_search_18 fX3_12 (by omega) hE4_51 rfl rfl ?_
  refine v_aload_n C 1 dX3_search_21 rfl rfl ?_
  obtain ⟨sz7, hW7, hs7, ht7⟩ := hJ5.pg pc52
  obtain ⟨sz11, hW11, hs11, ht11⟩ := hJ5.pg hc
  obtain ⟨i12, hE12, hb12⟩ := hJ5.1.2.2.getO (b := 52) (by omega) (pc52.t0 k)
  refine v_cVv C dX3_search_22 lX3_57 mX5_copyFrom 52 (by omega) hE12 (by decide) rfl (c_copyFrom l G _ ad _ 52 c (by omega) (by omega) (by omega) hW7 hW11 hs11 ht11) ⟨by decide, by decide⟩ rfl (Nat.le_of_ble_eq_true rfl) ⟨Nat.zero_le _, Nat.zero_le _⟩ (fun E8 hq9 => ?_)
  have hJ10 := hJ5.setP (by decide) hq9.1 hs11 ht11 hq9.2
  refine v_aload_n C 0 dX3_search_25 rfl rfl ?_
  refine v_aload_n C 1 dX3_search_26 rfl rfl ?_
  obtain ⟨i17, hE17, hb17⟩ := hJ10.1.2.2.getO (b := 51) (by omega) rfl
  refine v_cVv C dX3_search_27 lX3_61 mX3_listEdits 51 (by omega) hE17 (by decide) rfl (tz_X3_listEdits l G ad hJ10 c hc (by omega)) ⟨by decide, by decide⟩ rfl (Nat.le_of_ble_eq_true rfl) ⟨Nat.zero_le _, Nat.zero_le _⟩ (fun E14 hJ16 => ?_)
  refine v_aload_n C 0 dX3_search_30 rfl rfl ?_
  obtain ⟨i18, hE18, hb18⟩ := hJ16.1.2.2.getO (b := 51) (by omega) rfl
  refine v_getr C 51 dX3_search_31 fX3_38 (by omega) hE18 rfl rfl ?_
  refine v_aload_n C 0 dX3_search_34 rfl rfl ?_
  refine v_getr C 51 dX3_search_35 fX3_12 (by omega) hE18 rfl rfl ?_
  obtain ⟨i23, hE23, hb23⟩ := hJ16.1.2.2.getO (b := 48) (by omega) rfl
  refine v_cVi C dX3_search_38 lX3_64 mX1_isRight 48 (by omega) hE23 (by decide) rfl (tz_X1_isRight l G ad hJ16 52 pc52) ⟨by decide, by decide⟩ rfl (Nat.le_of_ble_eq_true rfl) ⟨Nat.zero_le _, Nat.zero_le _⟩ (fun r19 E20 hp21 => ?_)
  obtain ⟨hp21, hJ22⟩ := hp21
  rcases hp21 with rfl | rfl
  · refine b_if_eq C 50 dX3_search_41 (by decide) (show (0 : Int32).toInt = 0 by decide) (fun c24 => ?_) (fun c24 => absurd c24 (by decide))
    refine v_iconst (v := 0) C dX3_search_50 (by decide) ?_
    refine v_istore_n (lv' := [(0, .ref (ad 51)), (1, .ref (ad c)), (2, .int 0)]) C [1, 2, 0] dX3_search_51 rfl (by decide) rfl ?_
    have LP25 : ∀ (t : Nat) (E27 : Nat → va_E) (y26 : Int32), JZ l G ad k Z Y E0 E27 → ((0 : Int) ≤ y26.toInt ∧ y26.toInt ≤ 50) → 51 - y26.toInt < (t : Int) → V X G A 4 (QI X G A (98 + 9 * k) ad (fun r E' => ((-2147483648 : Int) ≤ r.toInt ∧ r.toInt ≤ 2147483647) ∧ JZ l G ad k Z Y E0 E')) (98 + 9 * k) ad 0 0 E27 52 [(0, .ref (ad 51)), (1, .ref (ad c)), (2, .int y26)] [] := by
      intro t31
      induction t31 with
      | zero => intro E27 y26 hJ28 hy26 hm30; exfalso; omega
      | succ t31 ih29 =>
        intro E27 y26 hJ28 hy26 hm30
        refine v_iload_n C 2 dX3_search_52 rfl rfl ?_
        refine v_aload_n C 0 dX3_search_53 rfl rfl ?_
        obtain ⟨i32, hE32, hb32⟩ := hJ28.1.2.2.getO (b := 51) (by omega) rfl
        refine v_geti (v := i32 8) C 51 dX3_search_54 fX3_72 (by omega) hE32 rfl rfl ?_
        have hi32_8 : (0 : Int) ≤ (i32 8).toInt ∧ (i32 8).toInt ≤ 50 := hb32 8
        refine b_icmp_ge C 97 dX3_search_57 (by decide) (rfl : Int32.toInt y26 = _) (rfl : Int32.toInt (i32 8) = _) (fun c33 => ?_) (fun c33 => ?_)
        · refine v_iconst (v := 0) C dX3_search_97 (by decide) ?_
          refine v_istore_n (lv' := [(0, .ref (ad 51)), (1, .ref (ad c)), (2, .int 0)]) C [1, 2, 0] dX3_search_98 rfl (by decide) rfl ?_
          have LP34 : ∀ (t : Nat) (E36 : Nat → va_E) (y35 : Int32), JZ l G ad k Z Y E0 E36 → ((0 : Int) ≤ y35.toInt ∧ y35.toInt ≤ 50) → 51 - y35.toInt < (t : Int) → V X G A 4 (QI X G A (98 + 9 * k) ad (fun r E' => ((-2147483648 : Int) ≤ r.toInt ∧ r.toInt ≤ 2147483647) ∧ JZ l G ad k Z Y E0 E')) (98 + 9 * k) ad 0 0 E36 99 [(0, .ref (ad 51)), (1, .ref (ad c)), (2, .int y35)] [] := by
            intro t40
            induction t40 with
            | zero => intro E36 y35 hJ37 hy35 hm39; exfalso; omega
            | succ t40 ih38 =>
              intro E36 y35 hJ37 hy35 hm39
              refine v_iload_n C 2 dX3_search_99 rfl rfl ?_
              refine v_aload_n C 0 dX3_search_100 rfl rfl ?_
              obtain ⟨i41, hE41, hb41⟩ := hJ37.1.2.2.getO (b := 51) (by omega) rfl
              refine v_geti (v := i41 8) C 51 dX3_search_101 fX3_72 (by omega) hE41 rfl rfl ?_
              have hi41_8 : (0 : Int) ≤ (i41 8).toInt ∧ (i41 8).toInt ≤ 50 := hb41 8
              refine b_icmp_ge C 191 dX3_search_104 (by decide) (rfl : Int32.toInt y35 = _) (rfl : Int32.toInt (i41 8) = _) (fun c42 => ?_) (fun c42 => ?_)
              · refine v_aload_n C 0 dX3_search_191 rfl rfl ?_
                refine v_getr C 51 dX3_search_192 fX3_18 (by omega) hE41 rfl rfl ?_
                obtain ⟨sz43, hW43, hs43, ht43⟩ := hJ37.pg pc58
                obtain ⟨i47, hE47, hb47⟩ := hJ37.1.2.2.getO (b := 58) (by omega) (pc58.t0 k)
                refine v_cVv C dX3_search_195 lX3_83 mX5_empty 58 (by omega) hE47 (by decide) rfl (c_empty l G _ ad _ 58 (by omega) hW43 hs43 ht43) ⟨by decide, by decide⟩ rfl (Nat.le_of_ble_eq_true rfl) ⟨Nat.zero_le _, Nat.zero_le _⟩ (fun E44 hq45 => ?_)
                have hJ46 := hJ37.setP (by decide) hq45.1 (by decide) (by decide) hq45.2
                refine v_iconst (v := (-1)) C dX3_search_198 (by decide) ?_
                exact v_ret C dX3_search_199 rfl rfl ⟨(ti_any (-1)), hJ46⟩
              · refine v_aload_n C 0 dX3_search_107 rfl rfl ?_
                refine v_iload_n C 2 dX3_search_108 rfl rfl ?_
                refine v_cVv C dX3_search_109 lX3_75 mX3_put 51 (by omega) hE41 (by decide) rfl (tz_X3_put l G ad hJ37 y35 (show (0 : Int) ≤ Int32.toInt y35 ∧ Int32.toInt y35 ≤ 49 by omega)) ⟨by decide, by decide⟩ rfl (Nat.le_of_ble_eq_true rfl) ⟨Nat.zero_le _, Nat.zero_le _⟩ (fun E49 hJ51 => ?_)
                refine v_iload_n C 2 dX3_search_112 rfl rfl ?_
                refine v_iconst (v := 1) C dX3_search_113 (by decide) ?_
                refine v_iadd C dX3_search_114 ?_
                refine v_top (fun x52 ex52 => ?_)
                have hx52 : x52.toInt = (y35.toInt + 1) := by rw [ex52]; exact ti_add (rfl : Int32.toInt y35 = _) (show (1 : Int32).toInt = 1 by decide) (by omega) (by omega)
                refine v_istore_n (lv' := [(0, .ref (ad 51)), (1, .ref (ad c)), (2, .int y35), (3, .int x52)]) C [1, 2, 3, 0] dX3_search_115 rfl (by decide) rfl ?_
                have LP53 : ∀ (t : Nat) (E55 : Nat → va_E) (y54 : Int32), JZ l G ad k Z Y E0 E55 → ((0 : Int) ≤ y54.toInt ∧ y54.toInt ≤ 50) → 51 - y54.toInt < (t : Int) → V X G A 4 (QI X G A (98 + 9 * k) ad (fun r E' => ((-2147483648 : Int) ≤ r.toInt ∧ r.toInt ≤ 2147483647) ∧ JZ l G ad k Z Y E0 E')) (98 + 9 * k) ad 0 0 E55 116 [(0, .ref (ad 51)), (1, .ref (ad c)), (2, .int y35), (3, .int y54)] [] := by
                  intro t59
                  induction t59 with
                  | zero => intro E55 y54 hJ56 hy54 hm58; exfalso; omega
                  | succ t59 ih57 =>
                    intro E55 y54 hJ56 hy54 hm58
                    refine v_iload_n C 3 dX3_search_116 rfl rfl ?_
                    refine v_aload_n C 0 dX3_search_117 rfl rfl ?_
                    obtain ⟨i60, hE60, hb60⟩ := hJ56.1.2.2.getO (b := 51) (by omega) rfl
                    refine v_geti (v := i60 8) C 51 dX3_search_118 fX3_72 (by omega) hE60 rfl rfl ?_
                    have hi60_8 : (0 : Int) ≤ (i60 8).toInt ∧ (i60 8).toInt ≤ 50 := hb60 8
                    refine b_icmp_ge C 179 dX3_search_121 (by decide) (rfl : Int32.toInt y54 = _) (rfl : Int32.toInt (i60 8) = _) (fun c61 => ?_) (fun c61 => ?_)
                    · refine v_aload_n C 0 dX3_search_179 rfl rfl ?_
                      refine v_aload_n C 1 dX3_search_180 rfl rfl ?_
                      refine v_iload_n C 2 dX3_search_181 rfl rfl ?_
                      refine v_cVv C dX3_search_182 lX3_79 mX3_undo 51 (by omega) hE60 (by decide) rfl (tz_X3_undo l G ad hJ56 c hc (by omega) y35 (show (0 : Int) ≤ Int32.toInt y35 ∧ Int32.toInt y35 ≤ 49 by omega)) ⟨by decide, by decide⟩ rfl (Nat.le_of_ble_eq_true rfl) ⟨Nat.zero_le _, Nat.zero_le _⟩ (fun E63 hJ65 => ?_)
                      obtain ⟨x66, ex66⟩ : ∃ y : Int32, y = y35 + 1 := ⟨_, rfl⟩
                      have hx66 : x66.toInt = (y35.toInt + 1) := by rw [ex66]; exact ti_add (rfl : Int32.toInt y35 = _) (show (1 : Int32).toInt = 1 by decide) (by omega) (by omega)
                      refine v_iinc (v := x66) (lv' := [(0, .ref (ad 51)), (1, .ref (ad c)), (2, .int x66), (3, .int y54)]) C 2 [1, 2, 0, 3] dX3_search_185 rfl (ex66.symm) (by decide) rfl ?_
                      refine v_goto C 99 dX3_search_188 (by decide) ?_
                      refine v_sub (lv' := [(0, .ref (ad 51)), (1, .ref (ad c)), (2, .int x66)]) [0, 1, 2] rfl ?_
                      exact ih38 _ x66 hJ65 (by have := hx66; omega) (by have := hx66; omega)
                    · refine v_aload_n C 0 dX3_search_124 rfl rfl ?_
                      refine v_getr C 51 dX3_search_125 fX3_21 (by omega) hE60 rfl rfl ?_
                      refine v_iload_n C 3 dX3_search_128 rfl rfl ?_
                      obtain ⟨f67, hE67, hb67⟩ := hJ56.1.2.2.getA (b := 64) (by omega) rfl
                      refine v_ald (v := f67 (y54.toInt).toNat) C 64 dX3_search_129 (by omega) hE67 (ti_in (rfl : Int32.toInt y54 = _) (by omega) (by omega)) (by rw [ti_cl (rfl : Int32.toInt y54 = _)]) ?_
                      refine v_top (fun x68 ex68 => ?_)
                      have hx68 : (0 : Int) ≤ x68.toInt ∧ x68.toInt ≤ 9 := by rw [ex68]; exact hb67 _
                      refine v_aload_n C 0 dX3_search_130 rfl rfl ?_
                      refine v_getr C 51 dX3_search_131 fX3_21 (by omega) hE60 rfl rfl ?_
                      refine v_iload_n C 2 dX3_search_134 rfl rfl ?_
                      refine v_ald (v := f67 (y35.toInt).toNat) C 64 dX3_search_135 (by omega) hE67 (ti_in (rfl : Int32.toInt y35 = _) (by omega) (by omega)) (by rw [ti_cl (rfl : Int32.toInt y35 = _)]) ?_
                      refine v_top (fun x69 ex69 => ?_)
                      have hx69 : (0 : Int) ≤ x69.toInt ∧ x69.toInt ≤ 9 := by rw [ex69]; exact hb67 _
                      refine b_icmp_ne C 142 dX3_search_136 (by decide) (rfl : Int32.toInt x68 = _) (rfl : Int32.toInt x69 = _) (fun c70 => ?_) (fun c70 => ?_)
                      · refine v_aload_n C 0 dX3_search_142 rfl rfl ?_
                        refine v_iload_n C 3 dX3_search_143 rfl rfl ?_
                        refine v_cVv C dX3_search_144 lX3_75 mX3_put 51 (by omega) hE60 (by decide) rfl (tz_X3_put l G ad hJ56 y54 (show (0 : Int) ≤ Int32.toInt y54 ∧ Int32.toInt y54 ≤ 49 by omega)) ⟨by decide, by decide⟩ rfl (Nat.le_of_ble_eq_true rfl) ⟨Nat.zero_le _, Nat.zero_le _⟩ (fun E72 hJ74 => ?_)
                        refine v_aload_n C 0 dX3_search_147 rfl rfl ?_
                        obtain ⟨i75, hE75, hb75⟩ := hJ74.1.2.2.getO (b := 51) (by omega) rfl
                        refine v_getr C 51 dX3_search_148 fX3_38 (by omega) hE75 rfl rfl ?_
                        refine v_aload_n C 0 dX3_search_151 rfl rfl ?_
                        refine v_getr C 51 dX3_search_152 fX3_12 (by omega) hE75 rfl rfl ?_
                        obtain ⟨i80, hE80, hb80⟩ := hJ74.1.2.2.getO (b := 48) (by omega) rfl
                        refine v_cVi C dX3_search_155 lX3_64 mX1_isRight 48 (by omega) hE80 (by decide) rfl (tz_X1_isRight l G ad hJ74 52 pc52) ⟨by decide, by decide⟩ rfl (Nat.le_of_ble_eq_true rfl) ⟨Nat.zero_le _, Nat.zero_le _⟩ (fun r76 E77 hp78 => ?_)
                        obtain ⟨hp78, hJ79⟩ := hp78
                        rcases hp78 with rfl | rfl
                        · refine b_if_eq C 167 dX3_search_158 (by decide) (show (0 : Int32).toInt = 0 by decide) (fun c81 => ?_) (fun c81 => absurd c81 (by decide))
                          refine v_aload_n C 0 dX3_search_167 rfl rfl ?_
                          refine v_aload_n C 1 dX3_search_168 rfl rfl ?_
                          refine v_iload_n C 3 dX3_search_169 rfl rfl ?_
                          obtain ⟨i86, hE86, hb86⟩ := hJ79.1.2.2.getO (b := 51) (by omega) rfl
                          refine v_cVv C dX3_search_170 lX3_79 mX3_undo 51 (by omega) hE86 (by decide) rfl (tz_X3_undo l G ad hJ79 c hc (by omega) y54 (show (0 : Int) ≤ Int32.toInt y54 ∧ Int32.toInt y54 ≤ 49 by omega)) ⟨by decide, by decide⟩ rfl (Nat.le_of_ble_eq_true rfl) ⟨Nat.zero_le _, Nat.zero_le _⟩ (fun E83 hJ85 => ?_)
                          obtain ⟨x87, ex87⟩ : ∃ y : Int32, y = y54 + 1 := ⟨_, rfl⟩
                          have hx87 : x87.toInt = (y54.toInt + 1) := by rw [ex87]; exact ti_add (rfl : Int32.toInt y54 = _) (show (1 : Int32).toInt = 1 by decide) (by omega) (by omega)
                          refine v_iinc (v := x87) (lv' := [(0, .ref (ad 51)), (1, .ref (ad c)), (2, .int y35), (3, .int x87)]) C 3 [1, 2, 3, 0] dX3_search_173 rfl (ex87.symm) (by decide) rfl ?_
                          refine v_goto C 116 dX3_search_176 (by decide) ?_
                          exact ih57 _ x87 hJ85 (by have := hx87; omega) (by have := hx87; omega)
                        · refine b_if_eq C 167 dX3_search_158 (by decide) (show (1 : Int32).toInt = 1 by decide) (fun c88 => absurd c88 (by decide)) (fun c88 => ?_)
                          refine v_aload_n C 0 dX3_search_161 rfl rfl ?_
                          refine v_iconst (v := 2) C dX3_search_162 (by decide) ?_
                          obtain ⟨i93, hE93, hb93⟩ := hJ79.1.2.2.getO (b := 51) (by omega) rfl
                          refine v_cVi C dX3_search_163 lX3_68 mX3_keepTrial 51 (by omega) hE93 (by decide) rfl (tz_X3_keepTrial l G ad hJ79 2) ⟨by decide, by decide⟩ rfl (Nat.le_of_ble_eq_true rfl) ⟨Nat.zero_le _, Nat.zero_le _⟩ (fun r89 E90 hp91 => ?_)
                          obtain ⟨hp91, hJ92⟩ := hp91
                          exact v_ret C dX3_search_166 rfl rfl ⟨(ti_any r89), hJ92⟩
                      · refine v_goto C 173 dX3_search_139 (by decide) ?_
                        obtain ⟨x94, ex94⟩ : ∃ y : Int32, y = y54 + 1 := ⟨_, rfl⟩
                        have hx94 : x94.toInt = (y54.toInt + 1) := by rw [ex94]; exact ti_add (rfl : Int32.toInt y54 = _) (show (1 : Int32).toInt = 1 by decide) (by omega) (by omega)
                        refine v_iinc (v := x94) (lv' := [(0, .ref (ad 51)), (1, .ref (ad c)), (2, .int y35), (3, .int x94)]) C 3 [1, 2, 3, 0] dX3_search_173 rfl (ex94.symm) (by decide) rfl ?_
                        refine v_goto C 116 dX3_search_176 (by decide) ?_
                        exact ih57 _ x94 hJ56 (by have := hx94; omega) (by have := hx94; omega)
                exact LP53 100000 _ x52 hJ51 (by have := hx52; omega) (by have := hx52; omega)
          exact LP34 100000 _ 0 hJ28 (by have := (show (0 : Int32).toInt = 0 by decide); omega) (by have := (show (0 : Int32).toInt = 0 by decide); omega)
        · refine v_aload_n C 0 dX3_search_60 rfl rfl ?_
          refine v_iload_n C 2 dX3_search_61 rfl rfl ?_
          refine v_cVv C dX3_search_62 lX3_75 mX3_put 51 (by omega) hE32 (by decide) rfl (tz_X3_put l G ad hJ28 y26 (show (0 : Int) ≤ Int32.toInt y26 ∧ Int32.toInt y26 ≤ 49 by omega)) ⟨by decide, by decide⟩ rfl (Nat.le_of_ble_eq_true rfl) ⟨Nat.zero_le _, Nat.zero_le _⟩ (fun E96 hJ98 => ?_)
          refine v_aload_n C 0 dX3_search_65 rfl rfl ?_
          obtain ⟨i99, hE99, hb99⟩ := hJ98.1.2.2.getO (b := 51) (by omega) rfl
          refine v_getr C 51 dX3_search_66 fX3_38 (by omega) hE99 rfl rfl ?_
          refine v_aload_n C 0 dX3_search_69 rfl rfl ?_
          refine v_getr C 51 dX3_search_70 fX3_12 (by omega) hE99 rfl rfl ?_
          obtain ⟨i104, hE104, hb104⟩ := hJ98.1.2.2.getO (b := 48) (by omega) rfl
          refine v_cVi C dX3_search_73 lX3_64 mX1_isRight 48 (by omega) hE104 (by decide) rfl (tz_X1_isRight l G ad hJ98 52 pc52) ⟨by decide, by decide⟩ rfl (Nat.le_of_ble_eq_true rfl) ⟨Nat.zero_le _, Nat.zero_le _⟩ (fun r100 E101 hp102 => ?_)
          obtain ⟨hp102, hJ103⟩ := hp102
          rcases hp102 with rfl | rfl
          · refine b_if_eq C 85 dX3_search_76 (by decide) (show (0 : Int32).toInt = 0 by decide) (fun c105 => ?_) (fun c105 => absurd c105 (by decide))
            refine v_aload_n C 0 dX3_search_85 rfl rfl ?_
            refine v_aload_n C 1 dX3_search_86 rfl rfl ?_
            refine v_iload_n C 2 dX3_search_87 rfl rfl ?_
            obtain ⟨i110, hE110, hb110⟩ := hJ103.1.2.2.getO (b := 51) (by omega) rfl
            refine v_cVv C dX3_search_88 lX3_79 mX3_undo 51 (by omega) hE110 (by decide) rfl (tz_X3_undo l G ad hJ103 c hc (by omega) y26 (show (0 : Int) ≤ Int32.toInt y26 ∧ Int32.toInt y26 ≤ 49 by omega)) ⟨by decide, by decide⟩ rfl (Nat.le_of_ble_eq_true rfl) ⟨Nat.zero_le _, Nat.zero_le _⟩ (fun E107 hJ109 => ?_)
            obtain ⟨x111, ex111⟩ : ∃ y : Int32, y = y26 + 1 := ⟨_, rfl⟩
            have hx111 : x111.toInt = (y26.toInt + 1) := by rw [ex111]; exact ti_add (rfl : Int32.toInt y26 = _) (show (1 : Int32).toInt = 1 by decide) (by omega) (by omega)
            refine v_iinc (v := x111) (lv' := [(0, .ref (ad 51)), (1, .ref (ad c)), (2, .int x111)]) C 2 [1, 2, 0] dX3_search_91 rfl (ex111.symm) (by decide) rfl ?_
            refine v_goto C 52 dX3_search_94 (by decide) ?_
            exact ih29 _ x111 hJ109 (by have := hx111; omega) (by have := hx111; omega)
          · refine b_if_eq C 85 dX3_search_76 (by decide) (show (1 : Int32).toInt = 1 by decide) (fun c112 => absurd c112 (by decide)) (fun c112 => ?_)
            refine v_aload_n C 0 dX3_search_79 rfl rfl ?_
            refine v_iconst (v := 1) C dX3_search_80 (by decide) ?_
            obtain ⟨i117, hE117, hb117⟩ := hJ103.1.2.2.getO (b := 51) (by omega) rfl
            refine v_cVi C dX3_search_81 lX3_68 mX3_keepTrial 51 (by omega) hE117 (by decide) rfl (tz_X3_keepTrial l G ad hJ103 1) ⟨by decide, by decide⟩ rfl (Nat.le_of_ble_eq_true rfl) ⟨Nat.zero_le _, Nat.zero_le _⟩ (fun r113 E114 hp115 => ?_)
            obtain ⟨hp115, hJ116⟩ := hp115
            exact v_ret C dX3_search_84 rfl rfl ⟨(ti_any r113), hJ116⟩
    exact LP25 100000 _ 0 hJ22 (by have := (show (0 : Int32).toInt = 0 by decide); omega) (by have := (show (0 : Int32).toInt = 0 by decide); omega)
  · refine b_if_eq C 50 dX3_search_41 (by decide) (show (1 : Int32).toInt = 1 by decide) (fun c118 => absurd c118 (by decide)) (fun c118 => ?_)
    refine v_aload_n C 0 dX3_search_44 rfl rfl ?_
    refine v_iconst (v := 0) C dX3_search_45 (by decide) ?_
    obtain ⟨i123, hE123, hb123⟩ := hJ22.1.2.2.getO (b := 51) (by omega) rfl
    refine v_cVi C dX3_search_46 lX3_68 mX3_keepTrial 51 (by omega) hE123 (by decide) rfl (tz_X3_keepTrial l G ad hJ22 0) ⟨by decide, by decide⟩ rfl (Nat.le_of_ble_eq_true rfl) ⟨Nat.zero_le _, Nat.zero_le _⟩ (fun r119 E120 hp121 => ?_)
    obtain ⟨hp121, hJ122⟩ := hp121
    exact v_ret C dX3_search_49 rfl rfl ⟨(ti_any r119), hJ122⟩

set_option maxRecDepth 20000 in
theorem tz_X8_freshZone (l : Launch) (G : Gl) (ad : Nat → Nat) {k : Nat} {Z : (Nat → va_E) → Prop} {Y : Nat → Int32 → (Nat → va_E) → Prop} {E0 E : Nat → va_E} (hJ : JZ l G ad k Z Y E0 E) (x : Int32) : CtQ l G yX8_freshZone cX8_freshZone 3 (.object "OddHours$Zone") 3 73 (98 + 9 * k) ad E [.ref (ad 0), .int x] (fun r E' => ((¬ ((0 : Int) ≤ x.toInt ∧ x.toInt < (k : Int)) ∧ r = none) ∨ ∃ i : Nat, (i : Int) = x.toInt ∧ i < k ∧ r = some (ad (98 + 9 * i))) ∧ JZ l G ad k Z Y E0 E') := by
  refine CtQ.of (by decide) (Nat.le_of_ble_eq_true rfl) (fun X A C => ?_)
  refine v_sub (lv' := [(0, .ref (ad 0)), (1, .int x)]) [0, 1] rfl ?_
  have hk5 := hJ.1.1
  refine v_aload_n C 0 dX8_freshZone_0 rfl rfl ?_
  obtain ⟨io1, hE1⟩ := hJ.c0
  refine v_getr C 0 dX8_freshZone_1 fX8_19 (by omega) hE1 rfl rfl ?_
  refine v_iload_n C 1 dX8_freshZone_4 rfl rfl ?_
  obtain ⟨i4, hE4, hb4⟩ := hJ.1.2.2.getO (b := 6) (by omega) rfl
  refine v_cVr C dX8_freshZone_5 lX8_132 mX7_at 6 (by omega) hE4 (by decide) rfl (t_X7_at l G ad hJ.1 x) ⟨by decide, by decide⟩ rfl (Nat.le_of_ble_eq_true rfl) ⟨Nat.zero_le _, Nat.zero_le _⟩ (fun r2 hp3 => ?_)
  rcases hp3 with ⟨hno5, rfl⟩ | ⟨i5x, hi5, hk5, rfl⟩
  · refine v_astore_nN (lv' := [(0, .ref (ad 0)), (1, .int x), (2, .null)]) C [1, 2, 0] dX8_freshZone_8 rfl (by decide) rfl ?_
    refine v_aload_nN C 2 dX8_freshZone_9 rfl rfl ?_
    refine v_ifnullN C 21 dX8_freshZone_10 (by decide) ?_
    refine v_aload_nN C 2 dX8_freshZone_21 rfl rfl ?_
    exact v_qret (v := none) C dX8_freshZone_22 rfl ⟨Or.inl ⟨by omega, rfl⟩, hJ⟩
  · obtain ⟨b5, eb5⟩ : ∃ q : Nat, q = 98 + 9 * i5x := ⟨_, rfl⟩
    rw [← eb5]
    have hb5 : ZC k b5 := ⟨_, hk5, eb5⟩
    have hb5n := hb5.n
    refine v_astore_n (lv' := [(0, .ref (ad 0)), (1, .int x), (2, .ref (ad b5))]) C [1, 2, 0] dX8_freshZone_8 rfl (by decide) rfl ?_
    refine v_aload_n C 2 dX8_freshZone_9 rfl rfl ?_
    refine v_ifnull C dX8_freshZone_10 ?_
    refine v_aload_n C 2 dX8_freshZone_13 rfl rfl ?_
    refine v_aload_n C 0 dX8_freshZone_14 rfl rfl ?_
    refine v_geti (v := io1 7) C 0 dX8_freshZone_15 fX8_56 (by omega) hE1 rfl rfl ?_
    obtain ⟨i10, hE10, hb10⟩ := hJ.1.2.2.getO (b := b5) (by omega) hb5.t0
    refine v_cVv C dX8_freshZone_18 lX8_283 mX6_refresh b5 (by omega) hE10 (by decide) rfl (tz_X6_refresh l G ad hJ b5 hb5 (io1 7)) ⟨by decide, by decide⟩ rfl (Nat.le_of_ble_eq_true rfl) ⟨Nat.zero_le _, Nat.zero_le _⟩ (fun E7 hJ9 => ?_)
    refine v_aload_n C 2 dX8_freshZone_21 rfl rfl ?_
    exact v_qret (v := some (ad b5)) C dX8_freshZone_22 rfl ⟨Or.inr ⟨i5x, by omega, by omega, by rw [eb5]⟩, hJ9⟩

set_option maxRecDepth 20000 in
theorem tz_X8_gatherOdds (l : Launch) (G : Gl) (ad : Nat → Nat) {k : Nat} {Z : (Nat → va_E) → Prop} {Y : Nat → Int32 → (Nat → va_E) → Prop} {E0 E : Nat → va_E} (hJ : JZ l G ad k Z Y E0 E) (x : Int32) (y : Int32) : CtV l G yX8_gatherOdds cX8_gatherOdds 3 4 102 (98 + 9 * k) ad E [.ref (ad 0), .int x, .int y] (fun E' => JZ l G ad k Z Y E0 E') := by
  refine CtV.of (by decide) (Nat.le_of_ble_eq_true rfl) (fun X A C => ?_)
  refine v_sub (lv' := [(0, .ref (ad 0)), (1, .int x), (2, .int y)]) [0, 1, 2] rfl ?_
  have hk5 := hJ.1.1
  refine v_aload_n C 0 dX8_gatherOdds_0 rfl rfl ?_
  obtain ⟨io1, hE1⟩ := hJ.c0
  refine v_getr C 0 dX8_gatherOdds_1 fX8_19 (by omega) hE1 rfl rfl ?_
  refine v_aload_n C 0 dX8_gatherOdds_4 rfl rfl ?_
  refine v_geti (v := io1 7) C 0 dX8_gatherOdds_5 fX8_56 (by omega) hE1 rfl rfl ?_
  obtain ⟨i6, hE6, hb6⟩ := hJ.1.2.2.getO (b := 6) (by omega) rfl
  refine v_cVv C dX8_gatherOdds_8 lX8_205 mX7_refresh 6 (by omega) hE6 (by decide) rfl (tz_X7_refresh l G ad hJ (io1 7)) ⟨by decide, by decide⟩ rfl (Nat.le_of_ble_eq_true rfl) ⟨Nat.zero_le _, Nat.zero_le _⟩ (fun E3 hJ5 => ?_)
  refine v_aload_n C 0 dX8_gatherOdds_11 rfl rfl ?_
  obtain ⟨io7, hE7⟩ := hJ5.c0
  refine v_getr C 0 dX8_gatherOdds_12 fX8_33 (by omega) hE7 rfl rfl ?_
  refine v_iload_n C 1 dX8_gatherOdds_15 rfl rfl ?_
  refine v_iload_n C 2 dX8_gatherOdds_16 rfl rfl ?_
  refine v_aload_n C 0 dX8_gatherOdds_17 rfl rfl ?_
  refine v_getr C 0 dX8_gatherOdds_18 fX8_19 (by omega) hE7 rfl rfl ?_
  refine v_aload_n C 0 dX8_gatherOdds_21 rfl rfl ?_
  refine v_getr C 0 dX8_gatherOdds_22 fX8_12 (by omega) hE7 rfl rfl ?_
  obtain ⟨ic10, md10, ms10, ld10, ys10, hC110, hC210, hC310, hC410, hC510, hCP10, hCF10⟩ := hJ5.cal
  have hCl10 := cal_b hCP10
  have hCy10 := cal_y hCP10
  refine v_cVp C dX8_gatherOdds_25 lX8_280 mX0_days 1 (by omega) hC110 (by decide) rfl (c_days l G _ ad _ (by omega) hC110 hC210 hC310 hC410 hC510 hCP10 hCF10  ) ⟨by decide, by decide⟩ rfl (Nat.le_of_ble_eq_true rfl) ⟨Nat.zero_le _, Nat.zero_le _⟩ (fun r8 hp9 => ?_)
  have hr8 : (0 : Int) ≤ r8.toInt ∧ r8.toInt ≤ 48100 := by have q := cal_y hCP10; rw [hp9]; omega
  obtain ⟨i15, hE15, hb15⟩ := hJ5.1.2.2.getO (b := 45) (by omega) rfl
  refine v_cVv C dX8_gatherOdds_28 lX8_284 mX4_gather 45 (by omega) hE15 (by decide) rfl (tz_X4_gather l G ad hJ5 x y r8) ⟨by decide, by decide⟩ rfl (Nat.le_of_ble_eq_true rfl) ⟨Nat.zero_le _, Nat.zero_le _⟩ (fun E12 hJ14 => ?_)
  exact v_vret C dX8_gatherOdds_31 rfl hJ14

set_option maxRecDepth 20000 in
theorem tz_X8_changes (l : Launch) (G : Gl) (ad : Nat → Nat) {k : Nat} {Z : (Nat → va_E) → Prop} {Y : Nat → Int32 → (Nat → va_E) → Prop} {E0 E : Nat → va_E} (hJ : JZ l G ad k Z Y E0 E) (x : Int32) : CtI l G yX8_changes cX8_changes 3 .int 4 95 (98 + 9 * k) ad E [.ref (ad 0), .int x] (fun r E' => ((-2147483648 : Int) ≤ r.toInt ∧ r.toInt ≤ 2147483647) ∧ JZ l G ad k Z Y E0 E') := by
  refine CtI.of (by decide) (Nat.le_of_ble_eq_true rfl) (fun X A C => ?_)
  refine v_sub (lv' := [(0, .ref (ad 0)), (1, .int x)]) [0, 1] rfl ?_
  have hk5 := hJ.1.1
  refine v_aload_n C 0 dX8_changes_0 rfl rfl ?_
  refine v_iload_n C 1 dX8_changes_1 rfl rfl ?_
  obtain ⟨io5, hE5⟩ := hJ.c0
  refine v_cVq C dX8_changes_2 lX8_153 mX8_freshZone 0 (by omega) hE5 (by decide) rfl (tz_X8_freshZone l G ad hJ x) ⟨by decide, by decide⟩ rfl (Nat.le_of_ble_eq_true rfl) ⟨Nat.zero_le _, Nat.zero_le _⟩ (fun r1 E3 hp2 => ?_)
  obtain ⟨hp2, hJ4⟩ := hp2
  rcases hp2 with ⟨hno6, rfl⟩ | ⟨i6x, hi6, hk6, rfl⟩
  · refine v_astore_nN (lv' := [(0, .ref (ad 0)), (1, .int x), (2, .null)]) C [1, 2, 0] dX8_changes_5 rfl (by decide) rfl ?_
    refine v_aload_nN C 2 dX8_changes_6 rfl rfl ?_
    refine v_ifnonnullN C dX8_changes_7 ?_
    refine v_iconst (v := (-1)) C dX8_changes_10 (by decide) ?_
    refine v_goto C 18 dX8_changes_11 (by decide) ?_
    exact v_ret C dX8_changes_18 rfl rfl ⟨(ti_any (-1)), hJ4⟩
  · obtain ⟨b6, eb6⟩ : ∃ q : Nat, q = 98 + 9 * i6x := ⟨_, rfl⟩
    rw [← eb6]
    have hb6 : ZC k b6 := ⟨_, hk6, eb6⟩
    have hb6n := hb6.n
    refine v_astore_n (lv' := [(0, .ref (ad 0)), (1, .int x), (2, .ref (ad b6))]) C [1, 2, 0] dX8_changes_5 rfl (by decide) rfl ?_
    refine v_aload_n C 2 dX8_changes_6 rfl rfl ?_
    refine v_ifnonnull C 14 dX8_changes_7 (by decide) ?_
    refine v_aload_n C 2 dX8_changes_14 rfl rfl ?_
    obtain ⟨i7, hE7, hb7⟩ := hJ4.1.2.2.getO (b := b6) (by omega) hb6.t0
    refine v_geti (v := i7 10) C b6 dX8_changes_15 fX8_156 (by omega) hE7 rfl rfl ?_
    have hi7_10 : (0 : Int) ≤ (i7 10).toInt ∧ (i7 10).toInt ≤ 800 := hb7 10
    exact v_ret C dX8_changes_18 rfl rfl ⟨(ti_any (i7 10)), hJ4⟩

set_option maxRecDepth 20000 in
theorem tz_X8_change (l : Launch) (G : Gl) (ad : Nat → Nat) {k : Nat} {Z : (Nat → va_E) → Prop} {Y : Nat → Int32 → (Nat → va_E) → Prop} {E0 E : Nat → va_E} (hJ : JZ l G ad k Z Y E0 E) (x : Int32) (y : Int32) : CtI l G yX8_change cX8_change 4 .int 4 95 (98 + 9 * k) ad E [.ref (ad 0), .int x, .int y] (fun r E' => ((-2147483648 : Int) ≤ r.toInt ∧ r.toInt ≤ 2147483647) ∧ JZ l G ad k Z Y E0 E') := by
  refine CtI.of (by decide) (Nat.le_of_ble_eq_true rfl) (fun X A C => ?_)
  refine v_sub (lv' := [(0, .ref (ad 0)), (1, .int x), (2, .int y)]) [0, 1, 2] rfl ?_
  have hk5 := hJ.1.1
  refine v_aload_n C 0 dX8_change_0 rfl rfl ?_
  refine v_iload_n C 1 dX8_change_1 rfl rfl ?_
  obtain ⟨io5, hE5⟩ := hJ.c0
  refine v_cVq C dX8_change_2 lX8_153 mX8_freshZone 0 (by omega) hE5 (by decide) rfl (tz_X8_freshZone l G ad hJ x) ⟨by decide, by decide⟩ rfl (Nat.le_of_ble_eq_true rfl) ⟨Nat.zero_le _, Nat.zero_le _⟩ (fun r1 E3 hp2 => ?_)
  obtain ⟨hp2, hJ4⟩ := hp2
  rcases hp2 with ⟨hno6, rfl⟩ | ⟨i6x, hi6, hk6, rfl⟩
  · refine v_astore_nN (lv' := [(0, .ref (ad 0)), (1, .int x), (2, .int y), (3, .null)]) C [1, 2, 3, 0] dX8_change_5 rfl (by decide) rfl ?_
    refine v_aload_nN C 3 dX8_change_6 rfl rfl ?_
    refine v_ifnullN C 22 dX8_change_7 (by decide) ?_
    refine v_iconst (v := (-1)) C dX8_change_22 (by decide) ?_
    exact v_ret C dX8_change_23 rfl rfl ⟨(ti_any (-1)), hJ4⟩
  · obtain ⟨b6, eb6⟩ : ∃ q : Nat, q = 98 + 9 * i6x := ⟨_, rfl⟩
    rw [← eb6]
    have hb6 : ZC k b6 := ⟨_, hk6, eb6⟩
    have hb6n := hb6.n
    refine v_astore_n (lv' := [(0, .ref (ad 0)), (1, .int x), (2, .int y), (3, .ref (ad b6))]) C [1, 2, 3, 0] dX8_change_5 rfl (by decide) rfl ?_
    refine v_aload_n C 3 dX8_change_6 rfl rfl ?_
    refine v_ifnull C dX8_change_7 ?_
    refine v_iload_n C 2 dX8_change_10 rfl rfl ?_
    refine b_if_lt C 22 dX8_change_11 (by decide) (rfl : Int32.toInt y = _) (fun c7 => ?_) (fun c7 => ?_)
    · refine v_iconst (v := (-1)) C dX8_change_22 (by decide) ?_
      exact v_ret C dX8_change_23 rfl rfl ⟨(ti_any (-1)), hJ4⟩
    · refine v_iload_n C 2 dX8_change_14 rfl rfl ?_
      refine v_aload_n C 3 dX8_change_15 rfl rfl ?_
      obtain ⟨i8, hE8, hb8⟩ := hJ4.1.2.2.getO (b := b6) (by omega) hb6.t0
      refine v_geti (v := i8 10) C b6 dX8_change_16 fX8_156 (by omega) hE8 rfl rfl ?_
      have hi8_10 : (0 : Int) ≤ (i8 10).toInt ∧ (i8 10).toInt ≤ 800 := hb8 10
      refine b_icmp_lt C 24 dX8_change_19 (by decide) (rfl : Int32.toInt y = _) (rfl : Int32.toInt (i8 10) = _) (fun c9 => ?_) (fun c9 => ?_)
      · refine v_aload_n C 3 dX8_change_24 rfl rfl ?_
        refine v_getr C b6 dX8_change_25 fX8_159 (by omega) hE8 rfl rfl ?_
        refine v_iload_n C 2 dX8_change_28 rfl rfl ?_
        refine v_iconst (v := 1) C dX8_change_29 (by decide) ?_
        refine v_iadd C dX8_change_30 ?_
        refine v_top (fun x10 ex10 => ?_)
        have hx10 : x10.toInt = (y.toInt + 1) := by rw [ex10]; exact ti_add (rfl : Int32.toInt y = _) (show (1 : Int32).toInt = 1 by decide) (by omega) (by omega)
        obtain ⟨f11, hE11, hb11⟩ := hJ4.1.2.2.getA (b := (b6 + 6)) (by omega) hb6.t6
        refine v_ald (v := f11 ((y.toInt + 1)).toNat) C (b6 + 6) dX8_change_31 (by omega) hE11 (ti_in hx10 (by omega) (by omega)) (by rw [ti_cl hx10]) ?_
        refine v_top (fun x12 _ => ?_)
        exact v_ret C dX8_change_32 rfl rfl ⟨(ti_any x12), hJ4⟩
      · refine v_iconst (v := (-1)) C dX8_change_22 (by decide) ?_
        exact v_ret C dX8_change_23 rfl rfl ⟨(ti_any (-1)), hJ4⟩

set_option maxRecDepth 20000 in
theorem tz_X8_offset (l : Launch) (G : Gl) (ad : Nat → Nat) {k : Nat} {Z : (Nat → va_E) → Prop} {Y : Nat → Int32 → (Nat → va_E) → Prop} {E0 E : Nat → va_E} (hJ : JZ l G ad k Z Y E0 E) (x : Int32) (y : Int32) : CtI l G yX8_offset cX8_offset 4 .int 4 95 (98 + 9 * k) ad E [.ref (ad 0), .int x, .int y] (fun r E' => ((-2147483648 : Int) ≤ r.toInt ∧ r.toInt ≤ 2147483647) ∧ JZ l G ad k Z Y E0 E') := by
  refine CtI.of (by decide) (Nat.le_of_ble_eq_true rfl) (fun X A C => ?_)
  refine v_sub (lv' := [(0, .ref (ad 0)), (1, .int x), (2, .int y)]) [0, 1, 2] rfl ?_
  have hk5 := hJ.1.1
  refine v_aload_n C 0 dX8_offset_0 rfl rfl ?_
  refine v_iload_n C 1 dX8_offset_1 rfl rfl ?_
  obtain ⟨io5, hE5⟩ := hJ.c0
  refine v_cVq C dX8_offset_2 lX8_153 mX8_freshZone 0 (by omega) hE5 (by decide) rfl (tz_X8_freshZone l G ad hJ x) ⟨by decide, by decide⟩ rfl (Nat.le_of_ble_eq_true rfl) ⟨Nat.zero_le _, Nat.zero_le _⟩ (fun r1 E3 hp2 => ?_)
  obtain ⟨hp2, hJ4⟩ := hp2
  rcases hp2 with ⟨hno6, rfl⟩ | ⟨i6x, hi6, hk6, rfl⟩
  · refine v_astore_nN (lv' := [(0, .ref (ad 0)), (1, .int x), (2, .int y), (3, .null)]) C [1, 2, 3, 0] dX8_offset_5 rfl (by decide) rfl ?_
    refine v_aload_nN C 3 dX8_offset_6 rfl rfl ?_
    refine v_ifnullN C 17 dX8_offset_7 (by decide) ?_
    refine v_sipush (v := (-9999)) C dX8_offset_17 (by decide) ?_
    exact v_ret C dX8_offset_20 rfl rfl ⟨(ti_any (-9999)), hJ4⟩
  · obtain ⟨b6, eb6⟩ : ∃ q : Nat, q = 98 + 9 * i6x := ⟨_, rfl⟩
    rw [← eb6]
    have hb6 : ZC k b6 := ⟨_, hk6, eb6⟩
    have hb6n := hb6.n
    refine v_astore_n (lv' := [(0, .ref (ad 0)), (1, .int x), (2, .int y), (3, .ref (ad b6))]) C [1, 2, 3, 0] dX8_offset_5 rfl (by decide) rfl ?_
    refine v_aload_n C 3 dX8_offset_6 rfl rfl ?_
    refine v_ifnull C dX8_offset_7 ?_
    refine v_iload_n C 2 dX8_offset_10 rfl rfl ?_
    refine v_cSp C dX8_offset_11 lX8_162 mX8_isMoment (c_isMoment l G _ ad _ y) ⟨by decide, by decide⟩ rfl (Nat.le_of_ble_eq_true rfl) ⟨Nat.zero_le _, Nat.zero_le _⟩ (fun r7 hp8 => ?_)
    rcases hp8 with ⟨rfl, hp8⟩ | ⟨rfl, hp8⟩
    · refine b_if_ne C 21 dX8_offset_14 (by decide) (show (1 : Int32).toInt = 1 by decide) (fun c9 => ?_) (fun c9 => absurd c9 (by decide))
      refine v_aload_n C 3 dX8_offset_21 rfl rfl ?_
      refine v_iload_n C 2 dX8_offset_22 rfl rfl ?_
      obtain ⟨i12, hE12, hb12⟩ := hJ4.1.2.2.getO (b := b6) (by omega) hb6.t0
      refine v_cVp C dX8_offset_23 lX8_165 mX6_offsetAt b6 (by omega) hE12 (by decide) rfl (t_X6_offsetAt l G ad hJ4.1 b6 hb6 y) ⟨by decide, by decide⟩ rfl (Nat.le_of_ble_eq_true rfl) ⟨Nat.zero_le _, Nat.zero_le _⟩ (fun r10 hp11 => ?_)
      exact v_ret C dX8_offset_26 rfl rfl ⟨(ti_any r10), hJ4⟩
    · refine b_if_ne C 21 dX8_offset_14 (by decide) (show (0 : Int32).toInt = 0 by decide) (fun c13 => absurd c13 (by decide)) (fun c13 => ?_)
      refine v_sipush (v := (-9999)) C dX8_offset_17 (by decide) ?_
      exact v_ret C dX8_offset_20 rfl rfl ⟨(ti_any (-9999)), hJ4⟩

set_option maxRecDepth 20000 in
theorem tz_X8_wall (l : Launch) (G : Gl) (ad : Nat → Nat) {k : Nat} {Z : (Nat → va_E) → Prop} {Y : Nat → Int32 → (Nat → va_E) → Prop} {E0 E : Nat → va_E} (hJ : JZ l G ad k Z Y E0 E) (x : Int32) (y : Int32) : CtI l G yX8_wall cX8_wall 5 .int 4 95 (98 + 9 * k) ad E [.ref (ad 0), .int x, .int y] (fun r E' => ((-2147483648 : Int) ≤ r.toInt ∧ r.toInt ≤ 2147483647) ∧ JZ l G ad k Z Y E0 E') := by
  refine CtI.of (by decide) (Nat.le_of_ble_eq_true rfl) (fun X A C => ?_)
  refine v_sub (lv' := [(0, .ref (ad 0)), (1, .int x), (2, .int y)]) [0, 1, 2] rfl ?_
  have hk5 := hJ.1.1
  refine v_aload_n C 0 dX8_wall_0 rfl rfl ?_
  refine v_iload_n C 1 dX8_wall_1 rfl rfl ?_
  obtain ⟨io5, hE5⟩ := hJ.c0
  refine v_cVq C dX8_wall_2 lX8_153 mX8_freshZone 0 (by omega) hE5 (by decide) rfl (tz_X8_freshZone l G ad hJ x) ⟨by decide, by decide⟩ rfl (Nat.le_of_ble_eq_true rfl) ⟨Nat.zero_le _, Nat.zero_le _⟩ (fun r1 E3 hp2 => ?_)
  obtain ⟨hp2, hJ4⟩ := hp2
  rcases hp2 with ⟨hno6, rfl⟩ | ⟨i6x, hi6, hk6, rfl⟩
  · refine v_astore_nN (lv' := [(0, .ref (ad 0)), (1, .int x), (2, .int y), (3, .null)]) C [1, 2, 3, 0] dX8_wall_5 rfl (by decide) rfl ?_
    refine v_aload_nN C 3 dX8_wall_6 rfl rfl ?_
    refine v_ifnullN C 17 dX8_wall_7 (by decide) ?_
    refine v_iconst (v := (-1)) C dX8_wall_17 (by decide) ?_
    exact v_ret C dX8_wall_18 rfl rfl ⟨(ti_any (-1)), hJ4⟩
  · obtain ⟨b6, eb6⟩ : ∃ q : Nat, q = 98 + 9 * i6x := ⟨_, rfl⟩
    rw [← eb6]
    have hb6 : ZC k b6 := ⟨_, hk6, eb6⟩
    have hb6n := hb6.n
    refine v_astore_n (lv' := [(0, .ref (ad 0)), (1, .int x), (2, .int y), (3, .ref (ad b6))]) C [1, 2, 3, 0] dX8_wall_5 rfl (by decide) rfl ?_
    refine v_aload_n C 3 dX8_wall_6 rfl rfl ?_
    refine v_ifnull C dX8_wall_7 ?_
    refine v_iload_n C 2 dX8_wall_10 rfl rfl ?_
    refine v_cSp C dX8_wall_11 lX8_162 mX8_isMoment (c_isMoment l G _ ad _ y) ⟨by decide, by decide⟩ rfl (Nat.le_of_ble_eq_true rfl) ⟨Nat.zero_le _, Nat.zero_le _⟩ (fun r7 hp8 => ?_)
    rcases hp8 with ⟨rfl, hp8⟩ | ⟨rfl, hp8⟩
    · refine b_if_ne C 19 dX8_wall_14 (by decide) (show (1 : Int32).toInt = 1 by decide) (fun c9 => ?_) (fun c9 => absurd c9 (by decide))
      refine v_iload_n C 2 dX8_wall_19 rfl rfl ?_
      refine v_aload_n C 3 dX8_wall_20 rfl rfl ?_
      refine v_iload_n C 2 dX8_wall_21 rfl rfl ?_
      obtain ⟨i12, hE12, hb12⟩ := hJ4.1.2.2.getO (b := b6) (by omega) hb6.t0
      refine v_cVp C dX8_wall_22 lX8_165 mX6_offsetAt b6 (by omega) hE12 (by decide) rfl (t_X6_offsetAt l G ad hJ4.1 b6 hb6 y) ⟨by decide, by decide⟩ rfl (Nat.le_of_ble_eq_true rfl) ⟨Nat.zero_le _, Nat.zero_le _⟩ (fun r10 hp11 => ?_)
      refine v_iadd C dX8_wall_25 ?_
      refine v_top (fun x13 _ => ?_)
      refine v_istore (lv' := [(0, .ref (ad 0)), (1, .int x), (2, .int y), (3, .ref (ad b6)), (4, .int x13)]) C [1, 2, 3, 4, 0] dX8_wall_26 (by decide) rfl ?_
      refine v_aload_n C 0 dX8_wall_28 rfl rfl ?_
      obtain ⟨io14, hE14⟩ := hJ4.c0
      refine v_getr C 0 dX8_wall_29 fX8_12 (by omega) hE14 rfl rfl ?_
      refine v_iload C 4 dX8_wall_32 rfl ?_
      obtain ⟨ic17, md17, ms17, ld17, ys17, hC117, hC217, hC317, hC417, hC517, hCP17, hCF17⟩ := hJ4.cal
      have hCl17 := cal_b hCP17
      have hCy17 := cal_y hCP17
      refine v_cVp C dX8_wall_34 lX8_168 mX0_hasWall 1 (by omega) hC117 (by decide) rfl (c_hasWall l G _ ad _ (by omega) hC117 hC217 hC317 hC417 hC517 hCP17 hCF17 x13) ⟨by decide, by decide⟩ rfl (Nat.le_of_ble_eq_true rfl) ⟨Nat.zero_le _, Nat.zero_le _⟩ (fun r15 hp16 => ?_)
      rcases hp16 with ⟨rfl, hp16⟩ | ⟨rfl, hp16⟩
      · refine b_if_eq C 45 dX8_wall_37 (by decide) (show (1 : Int32).toInt = 1 by decide) (fun c18 => absurd c18 (by decide)) (fun c18 => ?_)
        refine v_iload C 4 dX8_wall_40 rfl ?_
        refine v_goto C 47 dX8_wall_42 (by decide) ?_
        exact v_ret C dX8_wall_47 rfl rfl ⟨(ti_any x13), hJ4⟩
      · refine b_if_eq C 45 dX8_wall_37 (by decide) (show (0 : Int32).toInt = 0 by decide) (fun c19 => ?_) (fun c19 => absurd c19 (by decide))
        refine v_bipush (v := (-6)) C dX8_wall_45 (by decide) ?_
        exact v_ret C dX8_wall_47 rfl rfl ⟨(ti_any (-6)), hJ4⟩
    · refine b_if_ne C 19 dX8_wall_14 (by decide) (show (0 : Int32).toInt = 0 by decide) (fun c20 => absurd c20 (by decide)) (fun c20 => ?_)
      refine v_iconst (v := (-1)) C dX8_wall_17 (by decide) ?_
      exact v_ret C dX8_wall_18 rfl rfl ⟨(ti_any (-1)), hJ4⟩

set_option maxRecDepth 20000 in
theorem tz_X8_moments (l : Launch) (G : Gl) (ad : Nat → Nat) {k : Nat} {Z : (Nat → va_E) → Prop} {Y : Nat → Int32 → (Nat → va_E) → Prop} {E0 E : Nat → va_E} (hJ : JZ l G ad k Z Y E0 E) (x : Int32) (y : Int32) : CtI l G yX8_moments cX8_moments 4 .int 4 95 (98 + 9 * k) ad E [.ref (ad 0), .int x, .int y] (fun r E' => ((-2147483648 : Int) ≤ r.toInt ∧ r.toInt ≤ 2147483647) ∧ JZ l G ad k Z Y E0 E') := by
  refine CtI.of (by decide) (Nat.le_of_ble_eq_true rfl) (fun X A C => ?_)
  refine v_sub (lv' := [(0, .ref (ad 0)), (1, .int x), (2, .int y)]) [0, 1, 2] rfl ?_
  have hk5 := hJ.1.1
  refine v_aload_n C 0 dX8_moments_0 rfl rfl ?_
  refine v_iload_n C 1 dX8_moments_1 rfl rfl ?_
  obtain ⟨io5, hE5⟩ := hJ.c0
  refine v_cVq C dX8_moments_2 lX8_153 mX8_freshZone 0 (by omega) hE5 (by decide) rfl (tz_X8_freshZone l G ad hJ x) ⟨by decide, by decide⟩ rfl (Nat.le_of_ble_eq_true rfl) ⟨Nat.zero_le _, Nat.zero_le _⟩ (fun r1 E3 hp2 => ?_)
  obtain ⟨hp2, hJ4⟩ := hp2
  rcases hp2 with ⟨hno6, rfl⟩ | ⟨i6x, hi6, hk6, rfl⟩
  · refine v_astore_nN (lv' := [(0, .ref (ad 0)), (1, .int x), (2, .int y), (3, .null)]) C [1, 2, 3, 0] dX8_moments_5 rfl (by decide) rfl ?_
    refine v_aload_nN C 3 dX8_moments_6 rfl rfl ?_
    refine v_ifnullN C 21 dX8_moments_7 (by decide) ?_
    refine v_iconst (v := (-1)) C dX8_moments_21 (by decide) ?_
    exact v_ret C dX8_moments_22 rfl rfl ⟨(ti_any (-1)), hJ4⟩
  · obtain ⟨b6, eb6⟩ : ∃ q : Nat, q = 98 + 9 * i6x := ⟨_, rfl⟩
    rw [← eb6]
    have hb6 : ZC k b6 := ⟨_, hk6, eb6⟩
    have hb6n := hb6.n
    refine v_astore_n (lv' := [(0, .ref (ad 0)), (1, .int x), (2, .int y), (3, .ref (ad b6))]) C [1, 2, 3, 0] dX8_moments_5 rfl (by decide) rfl ?_
    refine v_aload_n C 3 dX8_moments_6 rfl rfl ?_
    refine v_ifnull C dX8_moments_7 ?_
    refine v_aload_n C 0 dX8_moments_10 rfl rfl ?_
    obtain ⟨io7, hE7⟩ := hJ4.c0
    refine v_getr C 0 dX8_moments_11 fX8_12 (by omega) hE7 rfl rfl ?_
    refine v_iload_n C 2 dX8_moments_14 rfl rfl ?_
    obtain ⟨ic10, md10, ms10, ld10, ys10, hC110, hC210, hC310, hC410, hC510, hCP10, hCF10⟩ := hJ4.cal
    have hCl10 := cal_b hCP10
    have hCy10 := cal_y hCP10
    refine v_cVp C dX8_moments_15 lX8_168 mX0_hasWall 1 (by omega) hC110 (by decide) rfl (c_hasWall l G _ ad _ (by omega) hC110 hC210 hC310 hC410 hC510 hCP10 hCF10 y) ⟨by decide, by decide⟩ rfl (Nat.le_of_ble_eq_true rfl) ⟨Nat.zero_le _, Nat.zero_le _⟩ (fun r8 hp9 => ?_)
    rcases hp9 with ⟨rfl, hp9⟩ | ⟨rfl, hp9⟩
    · refine b_if_ne C 23 dX8_moments_18 (by decide) (show (1 : Int32).toInt = 1 by decide) (fun c11 => ?_) (fun c11 => absurd c11 (by decide))
      refine v_aload_n C 3 dX8_moments_23 rfl rfl ?_
      refine v_iload_n C 2 dX8_moments_24 rfl rfl ?_
      obtain ⟨i14, hE14, hb14⟩ := hJ4.1.2.2.getO (b := b6) (by omega) hb6.t0
      refine v_cVp C dX8_moments_25 lX8_171 mX6_momentsOf b6 (by omega) hE14 (by decide) rfl (t_X6_momentsOf l G ad hJ4.1 b6 hb6 y) ⟨by decide, by decide⟩ rfl (Nat.le_of_ble_eq_true rfl) ⟨Nat.zero_le _, Nat.zero_le _⟩ (fun r12 hp13 => ?_)
      exact v_ret C dX8_moments_28 rfl rfl ⟨(ti_any r12), hJ4⟩
    · refine b_if_ne C 23 dX8_moments_18 (by decide) (show (0 : Int32).toInt = 0 by decide) (fun c15 => absurd c15 (by decide)) (fun c15 => ?_)
      refine v_iconst (v := (-1)) C dX8_moments_21 (by decide) ?_
      exact v_ret C dX8_moments_22 rfl rfl ⟨(ti_any (-1)), hJ4⟩

set_option maxRecDepth 20000 in
theorem tz_X8_moment (l : Launch) (G : Gl) (ad : Nat → Nat) {k : Nat} {Z : (Nat → va_E) → Prop} {Y : Nat → Int32 → (Nat → va_E) → Prop} {E0 E : Nat → va_E} (hJ : JZ l G ad k Z Y E0 E) (x : Int32) (y : Int32) (z : Int32) : CtI l G yX8_moment cX8_moment 6 .int 4 95 (98 + 9 * k) ad E [.ref (ad 0), .int x, .int y, .int z] (fun r E' => ((-2147483648 : Int) ≤ r.toInt ∧ r.toInt ≤ 2147483647) ∧ JZ l G ad k Z Y E0 E') := by
  refine CtI.of (by decide) (Nat.le_of_ble_eq_true rfl) (fun X A C => ?_)
  refine v_sub (lv' := [(0, .ref (ad 0)), (1, .int x), (2, .int y), (3, .int z)]) [0, 1, 2, 3] rfl ?_
  have hk5 := hJ.1.1
  refine v_aload_n C 0 dX8_moment_0 rfl rfl ?_
  refine v_iload_n C 1 dX8_moment_1 rfl rfl ?_
  obtain ⟨io5, hE5⟩ := hJ.c0
  refine v_cVq C dX8_moment_2 lX8_153 mX8_freshZone 0 (by omega) hE5 (by decide) rfl (tz_X8_freshZone l G ad hJ x) ⟨by decide, by decide⟩ rfl (Nat.le_of_ble_eq_true rfl) ⟨Nat.zero_le _, Nat.zero_le _⟩ (fun r1 E3 hp2 => ?_)
  obtain ⟨hp2, hJ4⟩ := hp2
  rcases hp2 with ⟨hno6, rfl⟩ | ⟨i6x, hi6, hk6, rfl⟩
  · refine v_astoreN (lv' := [(0, .ref (ad 0)), (1, .int x), (2, .int y), (3, .int z), (4, .null)]) C [1, 2, 3, 4, 0] dX8_moment_5 (by decide) rfl ?_
    refine v_aloadN C 4 dX8_moment_7 rfl ?_
    refine v_ifnullN C 23 dX8_moment_9 (by decide) ?_
    refine v_iconst (v := (-1)) C dX8_moment_23 (by decide) ?_
    exact v_ret C dX8_moment_24 rfl rfl ⟨(ti_any (-1)), hJ4⟩
  · obtain ⟨b6, eb6⟩ : ∃ q : Nat, q = 98 + 9 * i6x := ⟨_, rfl⟩
    rw [← eb6]
    have hb6 : ZC k b6 := ⟨_, hk6, eb6⟩
    have hb6n := hb6.n
    refine v_astore (lv' := [(0, .ref (ad 0)), (1, .int x), (2, .int y), (3, .int z), (4, .ref (ad b6))]) C [1, 2, 3, 4, 0] dX8_moment_5 (by decide) rfl ?_
    refine v_aload C 4 dX8_moment_7 rfl ?_
    refine v_ifnull C dX8_moment_9 ?_
    refine v_aload_n C 0 dX8_moment_12 rfl rfl ?_
    obtain ⟨io7, hE7⟩ := hJ4.c0
    refine v_getr C 0 dX8_moment_13 fX8_12 (by omega) hE7 rfl rfl ?_
    refine v_iload_n C 2 dX8_moment_16 rfl rfl ?_
    obtain ⟨ic10, md10, ms10, ld10, ys10, hC110, hC210, hC310, hC410, hC510, hCP10, hCF10⟩ := hJ4.cal
    have hCl10 := cal_b hCP10
    have hCy10 := cal_y hCP10
    refine v_cVp C dX8_moment_17 lX8_168 mX0_hasWall 1 (by omega) hC110 (by decide) rfl (c_hasWall l G _ ad _ (by omega) hC110 hC210 hC310 hC410 hC510 hCP10 hCF10 y) ⟨by decide, by decide⟩ rfl (Nat.le_of_ble_eq_true rfl) ⟨Nat.zero_le _, Nat.zero_le _⟩ (fun r8 hp9 => ?_)
    rcases hp9 with ⟨rfl, hp9⟩ | ⟨rfl, hp9⟩
    · refine b_if_ne C 25 dX8_moment_20 (by decide) (show (1 : Int32).toInt = 1 by decide) (fun c11 => ?_) (fun c11 => absurd c11 (by decide))
      refine v_aload C 4 dX8_moment_25 rfl ?_
      refine v_iload_n C 2 dX8_moment_27 rfl rfl ?_
      refine v_iload_n C 3 dX8_moment_28 rfl rfl ?_
      obtain ⟨i14, hE14, hb14⟩ := hJ4.1.2.2.getO (b := b6) (by omega) hb6.t0
      refine v_cVp C dX8_moment_29 lX8_174 mX6_momentOf b6 (by omega) hE14 (by decide) rfl (t_X6_momentOf l G ad hJ4.1 b6 hb6 y z) ⟨by decide, by decide⟩ rfl (Nat.le_of_ble_eq_true rfl) ⟨Nat.zero_le _, Nat.zero_le _⟩ (fun r12 hp13 => ?_)
      refine v_istore (lv' := [(0, .ref (ad 0)), (1, .int x), (2, .int y), (3, .int z), (4, .ref (ad b6)), (5, .int r12)]) C [1, 2, 3, 4, 5, 0] dX8_moment_32 (by decide) rfl ?_
      refine v_iload C 5 dX8_moment_34 rfl ?_
      refine v_iconst (v := (-1)) C dX8_moment_36 (by decide) ?_
      refine b_icmp_ne C 45 dX8_moment_37 (by decide) (rfl : Int32.toInt r12 = _) (show ((-1) : Int32).toInt = (-1) by decide) (fun c15 => ?_) (fun c15 => ?_)
      · refine v_iload C 5 dX8_moment_45 rfl ?_
        exact v_ret C dX8_moment_47 rfl rfl ⟨(ti_any r12), hJ4⟩
      · refine v_bipush (v := (-6)) C dX8_moment_40 (by decide) ?_
        refine v_goto C 47 dX8_moment_42 (by decide) ?_
        exact v_ret C dX8_moment_47 rfl rfl ⟨(ti_any (-6)), hJ4⟩
    · refine b_if_ne C 25 dX8_moment_20 (by decide) (show (0 : Int32).toInt = 0 by decide) (fun c16 => absurd c16 (by decide)) (fun c16 => ?_)
      refine v_iconst (v := (-1)) C dX8_moment_23 (by decide) ?_
      exact v_ret C dX8_moment_24 rfl rfl ⟨(ti_any (-1)), hJ4⟩

set_option maxRecDepth 20000 in
theorem tz_X8_run (l : Launch) (G : Gl) (ad : Nat → Nat) {k : Nat} {Z : (Nat → va_E) → Prop} {Y : Nat → Int32 → (Nat → va_E) → Prop} {E0 E : Nat → va_E} (hJ : JZ l G ad k Z Y E0 E) (x : Int32) (y : Int32) : CtI l G yX8_run cX8_run 4 .int 5 124 (98 + 9 * k) ad E [.ref (ad 0), .int x, .int y] (fun r E' => ((-2147483648 : Int) ≤ r.toInt ∧ r.toInt ≤ 2147483647) ∧ JZ l G ad k Z Y E0 E') := by
  refine CtI.of (by decide) (Nat.le_of_ble_eq_true rfl) (fun X A C => ?_)
  refine v_sub (lv' := [(0, .ref (ad 0)), (1, .int x), (2, .int y)]) [0, 1, 2] rfl ?_
  have hk5 := hJ.1.1
  refine v_aload_n C 0 dX8_run_0 rfl rfl ?_
  refine v_iload_n C 1 dX8_run_1 rfl rfl ?_
  obtain ⟨io3, hE3⟩ := hJ.c0
  refine v_cVr C dX8_run_2 lX8_177 mX8_programAt 0 (by omega) hE3 (by decide) rfl (t_X8_programAt l G ad hJ.1 x) ⟨by decide, by decide⟩ rfl (Nat.le_of_ble_eq_true rfl) ⟨Nat.zero_le _, Nat.zero_le _⟩ (fun r1 hp2 => ?_)
  rcases hp2 with ⟨hno4, rfl⟩ | ⟨i4x, hi4, hk4, rfl⟩
  · refine v_astore_nN (lv' := [(0, .ref (ad 0)), (1, .int x), (2, .int y), (3, .null)]) C [1, 2, 3, 0] dX8_run_5 rfl (by decide) rfl ?_
    refine v_aload_nN C 3 dX8_run_6 rfl rfl ?_
    refine v_ifnullN C 25 dX8_run_7 (by decide) ?_
    refine v_ldc C dX8_run_25 kX8_204 ?_
    exact v_ret C dX8_run_27 rfl rfl ⟨(ti_any (-2000000000)), hJ⟩
  · obtain ⟨c4, ec4⟩ : ∃ q : Nat, q = 9 + 6 * i4x := ⟨_, rfl⟩
    rw [← ec4]
    have hc4 : PC c4 := by rw [ec4]; exact PC.p hk4
    have hc4l : c4 < 45 := by omega
    have hc4n := hc4.n
    refine v_astore_n (lv' := [(0, .ref (ad 0)), (1, .int x), (2, .int y), (3, .ref (ad c4))]) C [1, 2, 3, 0] dX8_run_5 rfl (by decide) rfl ?_
    refine v_aload_n C 3 dX8_run_6 rfl rfl ?_
    refine v_ifnull C dX8_run_7 ?_
    refine v_iload_n C 2 dX8_run_10 rfl rfl ?_
    refine v_cSp C dX8_run_11 lX8_162 mX8_isMoment (c_isMoment l G _ ad _ y) ⟨by decide, by decide⟩ rfl (Nat.le_of_ble_eq_true rfl) ⟨Nat.zero_le _, Nat.zero_le _⟩ (fun r5 hp6 => ?_)
    rcases hp6 with ⟨rfl, hp6⟩ | ⟨rfl, hp6⟩
    · refine b_if_eq C 25 dX8_run_14 (by decide) (show (1 : Int32).toInt = 1 by decide) (fun c7 => absurd c7 (by decide)) (fun c7 => ?_)
      refine v_aload_n C 3 dX8_run_17 rfl rfl ?_
      obtain ⟨i8, hE8, hb8⟩ := hJ.1.2.2.getO (b := c4) (by omega) (hc4.t0 k)
      refine v_geti (v := i8 7) C c4 dX8_run_18 fX8_198 (by omega) hE8 rfl rfl ?_
      refine v_iconst (v := (-1)) C dX8_run_21 (by decide) ?_
      refine b_icmp_eq C 28 dX8_run_22 (by decide) (rfl : Int32.toInt (i8 7) = _) (show ((-1) : Int32).toInt = (-1) by decide) (fun c9 => ?_) (fun c9 => ?_)
      · refine v_aload_n C 0 dX8_run_28 rfl rfl ?_
        refine v_getr C 0 dX8_run_29 fX8_19 (by omega) hE3 rfl rfl ?_
        refine v_aload_n C 0 dX8_run_32 rfl rfl ?_
        refine v_geti (v := io3 7) C 0 dX8_run_33 fX8_56 (by omega) hE3 rfl rfl ?_
        obtain ⟨i14, hE14, hb14⟩ := hJ.1.2.2.getO (b := 6) (by omega) rfl
        refine v_cVv C dX8_run_36 lX8_205 mX7_refresh 6 (by omega) hE14 (by decide) rfl (tz_X7_refresh l G ad hJ (io3 7)) ⟨by decide, by decide⟩ rfl (Nat.le_of_ble_eq_true rfl) ⟨Nat.zero_le _, Nat.zero_le _⟩ (fun E11 hJ13 => ?_)
        refine v_aload_n C 0 dX8_run_39 rfl rfl ?_
        obtain ⟨io15, hE15⟩ := hJ13.c0
        refine v_getr C 0 dX8_run_40 fX8_42 (by omega) hE15 rfl rfl ?_
        obtain ⟨i16, hE16, hb16⟩ := hJ13.1.2.2.getO (b := 48) (by omega) rfl
        refine v_getr C 48 dX8_run_43 fX8_209 (by omega) hE16 rfl rfl ?_
        refine v_aload_n C 3 dX8_run_46 rfl rfl ?_
        refine v_iload_n C 2 dX8_run_47 rfl rfl ?_
        obtain ⟨i21, hE21, hb21⟩ := hJ13.1.2.2.getO (b := 49) (by omega) rfl
        refine v_cVi C dX8_run_48 lX8_213 mX2_answerOf 49 (by omega) hE21 (by decide) rfl (tz_X2_answerOf l G ad hJ13 c4 hc4 y) ⟨by decide, by decide⟩ rfl (Nat.le_of_ble_eq_true rfl) ⟨Nat.zero_le _, Nat.zero_le _⟩ (fun r17 E18 hp19 => ?_)
        obtain ⟨hp19, hJ20⟩ := hp19
        exact v_ret C dX8_run_51 rfl rfl ⟨(ti_any r17), hJ20⟩
      · refine v_ldc C dX8_run_25 kX8_204 ?_
        exact v_ret C dX8_run_27 rfl rfl ⟨(ti_any (-2000000000)), hJ⟩
    · refine b_if_eq C 25 dX8_run_14 (by decide) (show (0 : Int32).toInt = 0 by decide) (fun c22 => ?_) (fun c22 => absurd c22 (by decide))
      refine v_ldc C dX8_run_25 kX8_204 ?_
      exact v_ret C dX8_run_27 rfl rfl ⟨(ti_any (-2000000000)), hJ⟩

set_option maxRecDepth 20000 in
theorem tz_X8_keeps (l : Launch) (G : Gl) (ad : Nat → Nat) {k : Nat} {Z : (Nat → va_E) → Prop} {Y : Nat → Int32 → (Nat → va_E) → Prop} {E0 E : Nat → va_E} (hJ : JZ l G ad k Z Y E0 E) (x : Int32) (y : Int32) (z : Int32) (u : Int32) : CtI l G yX8_keeps cX8_keeps 6 .int 5 124 (98 + 9 * k) ad E [.ref (ad 0), .int x, .int y, .int z, .int u] (fun r E' => ((-2147483648 : Int) ≤ r.toInt ∧ r.toInt ≤ 2147483647) ∧ JZ l G ad k Z Y E0 E') := by
  refine CtI.of (by decide) (Nat.le_of_ble_eq_true rfl) (fun X A C => ?_)
  refine v_sub (lv' := [(0, .ref (ad 0)), (1, .int x), (2, .int y), (3, .int z), (4, .int u)]) [0, 1, 2, 3, 4] rfl ?_
  have hk5 := hJ.1.1
  refine v_aload_n C 0 dX8_keeps_0 rfl rfl ?_
  refine v_iload_n C 1 dX8_keeps_1 rfl rfl ?_
  obtain ⟨io3, hE3⟩ := hJ.c0
  refine v_cVr C dX8_keeps_2 lX8_177 mX8_programAt 0 (by omega) hE3 (by decide) rfl (t_X8_programAt l G ad hJ.1 x) ⟨by decide, by decide⟩ rfl (Nat.le_of_ble_eq_true rfl) ⟨Nat.zero_le _, Nat.zero_le _⟩ (fun r1 hp2 => ?_)
  rcases hp2 with ⟨hno4, rfl⟩ | ⟨i4x, hi4, hk4, rfl⟩
  · refine v_astoreN (lv' := [(0, .ref (ad 0)), (1, .int x), (2, .int y), (3, .int z), (4, .int u), (5, .null)]) C [1, 2, 3, 4, 5, 0] dX8_keeps_5 (by decide) rfl ?_
    refine v_aloadN C 5 dX8_keeps_7 rfl ?_
    refine v_ifnullN C 29 dX8_keeps_9 (by decide) ?_
    refine v_iconst (v := (-1)) C dX8_keeps_29 (by decide) ?_
    exact v_ret C dX8_keeps_30 rfl rfl ⟨(ti_any (-1)), hJ⟩
  · obtain ⟨c4, ec4⟩ : ∃ q : Nat, q = 9 + 6 * i4x := ⟨_, rfl⟩
    rw [← ec4]
    have hc4 : PC c4 := by rw [ec4]; exact PC.p hk4
    have hc4l : c4 < 45 := by omega
    have hc4n := hc4.n
    refine v_astore (lv' := [(0, .ref (ad 0)), (1, .int x), (2, .int y), (3, .int z), (4, .int u), (5, .ref (ad c4))]) C [1, 2, 3, 4, 5, 0] dX8_keeps_5 (by decide) rfl ?_
    refine v_aload C 5 dX8_keeps_7 rfl ?_
    refine v_ifnull C dX8_keeps_9 ?_
    refine v_aload_n C 0 dX8_keeps_12 rfl rfl ?_
    refine v_iload_n C 2 dX8_keeps_13 rfl rfl ?_
    refine v_iload_n C 3 dX8_keeps_14 rfl rfl ?_
    refine v_cVp C dX8_keeps_15 lX8_219 mX8_isLaw 0 (by omega) hE3 (by decide) rfl (t_X8_isLaw l G ad hJ.1 y z) ⟨by decide, by decide⟩ rfl (Nat.le_of_ble_eq_true rfl) ⟨Nat.zero_le _, Nat.zero_le _⟩ (fun r5 hp6 => ?_)
    rcases hp6 with rfl | rfl
    · refine b_if_eq C 29 dX8_keeps_18 (by decide) (show (0 : Int32).toInt = 0 by decide) (fun c7 => ?_) (fun c7 => absurd c7 (by decide))
      refine v_iconst (v := (-1)) C dX8_keeps_29 (by decide) ?_
      exact v_ret C dX8_keeps_30 rfl rfl ⟨(ti_any (-1)), hJ⟩
    · refine b_if_eq C 29 dX8_keeps_18 (by decide) (show (1 : Int32).toInt = 1 by decide) (fun c8 => absurd c8 (by decide)) (fun c8 => ?_)
      refine v_iload C 4 dX8_keeps_21 rfl ?_
      refine v_cSp C dX8_keeps_23 lX8_162 mX8_isMoment (c_isMoment l G _ ad _ u) ⟨by decide, by decide⟩ rfl (Nat.le_of_ble_eq_true rfl) ⟨Nat.zero_le _, Nat.zero_le _⟩ (fun r9 hp10 => ?_)
      rcases hp10 with ⟨rfl, hp10⟩ | ⟨rfl, hp10⟩
      · refine b_if_ne C 31 dX8_keeps_26 (by decide) (show (1 : Int32).toInt = 1 by decide) (fun c11 => ?_) (fun c11 => absurd c11 (by decide))
        refine v_aload C 5 dX8_keeps_31 rfl ?_
        obtain ⟨i12, hE12, hb12⟩ := hJ.1.2.2.getO (b := c4) (by omega) (hc4.t0 k)
        refine v_geti (v := i12 7) C c4 dX8_keeps_33 fX8_198 (by omega) hE12 rfl rfl ?_
        refine v_iconst (v := (-1)) C dX8_keeps_36 (by decide) ?_
        refine b_icmp_eq C 43 dX8_keeps_37 (by decide) (rfl : Int32.toInt (i12 7) = _) (show ((-1) : Int32).toInt = (-1) by decide) (fun c13 => ?_) (fun c13 => ?_)
        · refine v_aload_n C 0 dX8_keeps_43 rfl rfl ?_
          refine v_getr C 0 dX8_keeps_44 fX8_19 (by omega) hE3 rfl rfl ?_
          refine v_aload_n C 0 dX8_keeps_47 rfl rfl ?_
          refine v_geti (v := io3 7) C 0 dX8_keeps_48 fX8_56 (by omega) hE3 rfl rfl ?_
          obtain ⟨i18, hE18, hb18⟩ := hJ.1.2.2.getO (b := 6) (by omega) rfl
          refine v_cVv C dX8_keeps_51 lX8_205 mX7_refresh 6 (by omega) hE18 (by decide) rfl (tz_X7_refresh l G ad hJ (io3 7)) ⟨by decide, by decide⟩ rfl (Nat.le_of_ble_eq_true rfl) ⟨Nat.zero_le _, Nat.zero_le _⟩ (fun E15 hJ17 => ?_)
          refine v_aload_n C 0 dX8_keeps_54 rfl rfl ?_
          obtain ⟨io19, hE19⟩ := hJ17.c0
          refine v_getr C 0 dX8_keeps_55 fX8_42 (by omega) hE19 rfl rfl ?_
          refine v_iload_n C 2 dX8_keeps_58 rfl rfl ?_
          refine v_bipush (v := 10) C dX8_keeps_59 (by decide) ?_
          refine v_irem C dX8_keeps_61 (by decide) ?_
          refine v_top (fun x20 _ => ?_)
          refine v_iload_n C 2 dX8_keeps_62 rfl rfl ?_
          refine v_bipush (v := 10) C dX8_keeps_63 (by decide) ?_
          refine v_idiv C dX8_keeps_65 (by decide) ?_
          refine v_top (fun x21 ex21 => ?_)
          have hx21 : (-214748364 : Int) ≤ x21.toInt ∧ x21.toInt ≤ 214748364 := by rw [ex21]; exact ti_tdb (show (10 : Int32).toInt = 10 by decide) (by decide)
          refine v_iload_n C 3 dX8_keeps_66 rfl rfl ?_
          obtain ⟨i26, hE26, hb26⟩ := hJ17.1.2.2.getO (b := 48) (by omega) rfl
          refine v_cVv C dX8_keeps_67 lX8_223 mX1_hear 48 (by omega) hE26 (by decide) rfl (tz_X1_hear l G ad hJ17 x20 x21 z) ⟨by decide, by decide⟩ rfl (Nat.le_of_ble_eq_true rfl) ⟨Nat.zero_le _, Nat.zero_le _⟩ (fun E23 hJ25 => ?_)
          refine v_aload_n C 0 dX8_keeps_70 rfl rfl ?_
          obtain ⟨io27, hE27⟩ := hJ25.c0
          refine v_getr C 0 dX8_keeps_71 fX8_42 (by omega) hE27 rfl rfl ?_
          refine v_aload C 5 dX8_keeps_74 rfl ?_
          obtain ⟨i28, hE28, hb28⟩ := hJ25.1.2.2.getO (b := c4) (by omega) (hc4.t0 k)
          refine v_geti (v := i28 8) C c4 dX8_keeps_76 fX8_201 (by omega) hE28 rfl rfl ?_
          refine v_aload_n C 0 dX8_keeps_79 rfl rfl ?_
          refine v_getr C 0 dX8_keeps_80 fX8_42 (by omega) hE27 rfl rfl ?_
          obtain ⟨i29, hE29, hb29⟩ := hJ25.1.2.2.getO (b := 48) (by omega) rfl
          refine v_getr C 48 dX8_keeps_83 fX8_209 (by omega) hE29 rfl rfl ?_
          refine v_aload C 5 dX8_keeps_86 rfl ?_
          refine v_iload C 4 dX8_keeps_88 rfl ?_
          obtain ⟨i34, hE34, hb34⟩ := hJ25.1.2.2.getO (b := 49) (by omega) rfl
          refine v_cVi C dX8_keeps_90 lX8_213 mX2_answerOf 49 (by omega) hE34 (by decide) rfl (tz_X2_answerOf l G ad hJ25 c4 hc4 u) ⟨by decide, by decide⟩ rfl (Nat.le_of_ble_eq_true rfl) ⟨Nat.zero_le _, Nat.zero_le _⟩ (fun r30 E31 hp32 => ?_)
          obtain ⟨hp32, hJ33⟩ := hp32
          refine v_iload C 4 dX8_keeps_93 rfl ?_
          obtain ⟨i37, hE37, hb37⟩ := hJ33.1.2.2.getO (b := 48) (by omega) rfl
          refine v_cVp C dX8_keeps_95 lX8_226 mX1_holds 48 (by omega) hE37 (by decide) rfl (t_X1_holds l G ad hJ33.1 (i28 8) r30 u) ⟨by decide, by decide⟩ rfl (Nat.le_of_ble_eq_true rfl) ⟨Nat.zero_le _, Nat.zero_le _⟩ (fun r35 hp36 => ?_)
          rcases hp36 with rfl | rfl
          · refine b_if_eq C 105 dX8_keeps_98 (by decide) (show (0 : Int32).toInt = 0 by decide) (fun c38 => ?_) (fun c38 => absurd c38 (by decide))
            refine v_iconst (v := 0) C dX8_keeps_105 (by decide) ?_
            exact v_ret C dX8_keeps_106 rfl rfl ⟨(ti_any 0), hJ33⟩
          · refine b_if_eq C 105 dX8_keeps_98 (by decide) (show (1 : Int32).toInt = 1 by decide) (fun c39 => absurd c39 (by decide)) (fun c39 => ?_)
            refine v_iconst (v := 1) C dX8_keeps_101 (by decide) ?_
            refine v_goto C 106 dX8_keeps_102 (by decide) ?_
            exact v_ret C dX8_keeps_106 rfl rfl ⟨(ti_any 1), hJ33⟩
        · refine v_bipush (v := (-4)) C dX8_keeps_40 (by decide) ?_
          exact v_ret C dX8_keeps_42 rfl rfl ⟨(ti_any (-4)), hJ⟩
      · refine b_if_ne C 31 dX8_keeps_26 (by decide) (show (0 : Int32).toInt = 0 by decide) (fun c40 => absurd c40 (by decide)) (fun c40 => ?_)
        refine v_iconst (v := (-1)) C dX8_keeps_29 (by decide) ?_
        exact v_ret C dX8_keeps_30 rfl rfl ⟨(ti_any (-1)), hJ⟩

set_option maxRecDepth 20000 in
theorem tz_X8_odds (l : Launch) (G : Gl) (ad : Nat → Nat) {k : Nat} {Z : (Nat → va_E) → Prop} {Y : Nat → Int32 → (Nat → va_E) → Prop} {E0 E : Nat → va_E} (hJ : JZ l G ad k Z Y E0 E) (x : Int32) (y : Int32) : CtI l G yX8_odds cX8_odds 3 .int 5 124 (98 + 9 * k) ad E [.ref (ad 0), .int x, .int y] (fun r E' => ((-2147483648 : Int) ≤ r.toInt ∧ r.toInt ≤ 2147483647) ∧ JZ l G ad k Z Y E0 E') := by
  refine CtI.of (by decide) (Nat.le_of_ble_eq_true rfl) (fun X A C => ?_)
  refine v_sub (lv' := [(0, .ref (ad 0)), (1, .int x), (2, .int y)]) [0, 1, 2] rfl ?_
  have hk5 := hJ.1.1
  refine v_iload_n C 1 dX8_odds_0 rfl rfl ?_
  refine v_iload_n C 2 dX8_odds_1 rfl rfl ?_
  refine v_cSp C dX8_odds_2 lX8_230 mX8_isRange (t_X8_isRange l G ad hJ.1 x y) ⟨by decide, by decide⟩ rfl (Nat.le_of_ble_eq_true rfl) ⟨Nat.zero_le _, Nat.zero_le _⟩ (fun r1 hp2 => ?_)
  rcases hp2 with rfl | rfl
  · refine b_if_ne C 10 dX8_odds_5 (by decide) (show (0 : Int32).toInt = 0 by decide) (fun c3 => absurd c3 (by decide)) (fun c3 => ?_)
    refine v_iconst (v := (-1)) C dX8_odds_8 (by decide) ?_
    exact v_ret C dX8_odds_9 rfl rfl ⟨(ti_any (-1)), hJ⟩
  · refine b_if_ne C 10 dX8_odds_5 (by decide) (show (1 : Int32).toInt = 1 by decide) (fun c4 => ?_) (fun c4 => absurd c4 (by decide))
    refine v_aload_n C 0 dX8_odds_10 rfl rfl ?_
    refine v_iload_n C 1 dX8_odds_11 rfl rfl ?_
    refine v_iload_n C 2 dX8_odds_12 rfl rfl ?_
    obtain ⟨io9, hE9⟩ := hJ.c0
    refine v_cVv C dX8_odds_13 lX8_233 mX8_gatherOdds 0 (by omega) hE9 (by decide) rfl (tz_X8_gatherOdds l G ad hJ x y) ⟨by decide, by decide⟩ rfl (Nat.le_of_ble_eq_true rfl) ⟨Nat.zero_le _, Nat.zero_le _⟩ (fun E6 hJ8 => ?_)
    refine v_aload_n C 0 dX8_odds_16 rfl rfl ?_
    obtain ⟨io10, hE10⟩ := hJ8.c0
    refine v_getr C 0 dX8_odds_17 fX8_33 (by omega) hE10 rfl rfl ?_
    obtain ⟨i11, hE11, hb11⟩ := hJ8.1.2.2.getO (b := 45) (by omega) rfl
    refine v_geti (v := i11 2) C 45 dX8_odds_20 fX8_237 (by omega) hE11 rfl rfl ?_
    have hi11_2 : (0 : Int) ≤ (i11 2).toInt ∧ (i11 2).toInt ≤ 26002 := hb11 2
    exact v_ret C dX8_odds_23 rfl rfl ⟨(ti_any (i11 2)), hJ8⟩

set_option maxRecDepth 20000 in
theorem tz_X8_odd (l : Launch) (G : Gl) (ad : Nat → Nat) {k : Nat} {Z : (Nat → va_E) → Prop} {Y : Nat → Int32 → (Nat → va_E) → Prop} {E0 E : Nat → va_E} (hJ : JZ l G ad k Z Y E0 E) (x : Int32) (y : Int32) (z : Int32) : CtI l G yX8_odd cX8_odd 4 .int 5 124 (98 + 9 * k) ad E [.ref (ad 0), .int x, .int y, .int z] (fun r E' => ((-2147483648 : Int) ≤ r.toInt ∧ r.toInt ≤ 2147483647) ∧ JZ l G ad k Z Y E0 E') := by
  refine CtI.of (by decide) (Nat.le_of_ble_eq_true rfl) (fun X A C => ?_)
  refine v_sub (lv' := [(0, .ref (ad 0)), (1, .int x), (2, .int y), (3, .int z)]) [0, 1, 2, 3] rfl ?_
  have hk5 := hJ.1.1
  refine v_iload_n C 3 dX8_odd_0 rfl rfl ?_
  refine b_if_lt C 12 dX8_odd_1 (by decide) (rfl : Int32.toInt z = _) (fun c1 => ?_) (fun c1 => ?_)
  · refine v_iconst (v := (-1)) C dX8_odd_12 (by decide) ?_
    exact v_ret C dX8_odd_13 rfl rfl ⟨(ti_any (-1)), hJ⟩
  · refine v_iload_n C 1 dX8_odd_4 rfl rfl ?_
    refine v_iload_n C 2 dX8_odd_5 rfl rfl ?_
    refine v_cSp C dX8_odd_6 lX8_230 mX8_isRange (t_X8_isRange l G ad hJ.1 x y) ⟨by decide, by decide⟩ rfl (Nat.le_of_ble_eq_true rfl) ⟨Nat.zero_le _, Nat.zero_le _⟩ (fun r2 hp3 => ?_)
    rcases hp3 with rfl | rfl
    · refine b_if_ne C 14 dX8_odd_9 (by decide) (show (0 : Int32).toInt = 0 by decide) (fun c4 => absurd c4 (by decide)) (fun c4 => ?_)
      refine v_iconst (v := (-1)) C dX8_odd_12 (by decide) ?_
      exact v_ret C dX8_odd_13 rfl rfl ⟨(ti_any (-1)), hJ⟩
    · refine b_if_ne C 14 dX8_odd_9 (by decide) (show (1 : Int32).toInt = 1 by decide) (fun c5 => ?_) (fun c5 => absurd c5 (by decide))
      refine v_aload_n C 0 dX8_odd_14 rfl rfl ?_
      refine v_iload_n C 1 dX8_odd_15 rfl rfl ?_
      refine v_iload_n C 2 dX8_odd_16 rfl rfl ?_
      obtain ⟨io10, hE10⟩ := hJ.c0
      refine v_cVv C dX8_odd_17 lX8_233 mX8_gatherOdds 0 (by omega) hE10 (by decide) rfl (tz_X8_gatherOdds l G ad hJ x y) ⟨by decide, by decide⟩ rfl (Nat.le_of_ble_eq_true rfl) ⟨Nat.zero_le _, Nat.zero_le _⟩ (fun E7 hJ9 => ?_)
      refine v_iload_n C 3 dX8_odd_20 rfl rfl ?_
      refine v_aload_n C 0 dX8_odd_21 rfl rfl ?_
      obtain ⟨io11, hE11⟩ := hJ9.c0
      refine v_getr C 0 dX8_odd_22 fX8_33 (by omega) hE11 rfl rfl ?_
      obtain ⟨i12, hE12, hb12⟩ := hJ9.1.2.2.getO (b := 45) (by omega) rfl
      refine v_geti (v := i12 2) C 45 dX8_odd_25 fX8_237 (by omega) hE12 rfl rfl ?_
      have hi12_2 : (0 : Int) ≤ (i12 2).toInt ∧ (i12 2).toInt ≤ 26002 := hb12 2
      refine b_icmp_ge C 43 dX8_odd_28 (by decide) (rfl : Int32.toInt z = _) (rfl : Int32.toInt (i12 2) = _) (fun c13 => ?_) (fun c13 => ?_)
      · refine v_iconst (v := (-1)) C dX8_odd_43 (by decide) ?_
        exact v_ret C dX8_odd_44 rfl rfl ⟨(ti_any (-1)), hJ9⟩
      · refine v_aload_n C 0 dX8_odd_31 rfl rfl ?_
        refine v_getr C 0 dX8_odd_32 fX8_33 (by omega) hE11 rfl rfl ?_
        refine v_getr C 45 dX8_odd_35 fX8_240 (by omega) hE12 rfl rfl ?_
        refine v_iload_n C 3 dX8_odd_38 rfl rfl ?_
        obtain ⟨f14, hE14, hb14⟩ := hJ9.1.2.2.getA (b := 47) (by omega) rfl
        refine v_ald (v := f14 (z.toInt).toNat) C 47 dX8_odd_39 (by omega) hE14 (ti_in (rfl : Int32.toInt z = _) (by omega) (by omega)) (by rw [ti_cl (rfl : Int32.toInt z = _)]) ?_
        refine v_top (fun x15 _ => ?_)
        refine v_goto C 44 dX8_odd_40 (by decide) ?_
        exact v_ret C dX8_odd_44 rfl rfl ⟨(ti_any x15), hJ9⟩

set_option maxRecDepth 20000 in
theorem tz_X8_least (l : Launch) (G : Gl) (ad : Nat → Nat) {k : Nat} {Z : (Nat → va_E) → Prop} {Y : Nat → Int32 → (Nat → va_E) → Prop} {E0 E : Nat → va_E} (hJ : JZ l G ad k Z Y E0 E) (x : Int32) (y : Int32) (z : Int32) (u : Int32) (v : Int32) : CtI l G yX8_least cX8_least 8 .int 6 147 (98 + 9 * k) ad E [.ref (ad 0), .int x, .int y, .int z, .int u, .int v] (fun r E' => ((-2147483648 : Int) ≤ r.toInt ∧ r.toInt ≤ 2147483647) ∧ JZ l G ad k Z Y E0 E') := by
  refine CtI.of (by decide) (Nat.le_of_ble_eq_true rfl) (fun X A C => ?_)
  refine v_sub (lv' := [(0, .ref (ad 0)), (1, .int x), (2, .int y), (3, .int z), (4, .int u), (5, .int v)]) [0, 1, 2, 3, 4, 5] rfl ?_
  have hk5 := hJ.1.1
  refine v_aload_n C 0 dX8_least_0 rfl rfl ?_
  refine v_iload_n C 1 dX8_least_1 rfl rfl ?_
  obtain ⟨io3, hE3⟩ := hJ.c0
  refine v_cVr C dX8_least_2 lX8_177 mX8_programAt 0 (by omega) hE3 (by decide) rfl (t_X8_programAt l G ad hJ.1 x) ⟨by decide, by decide⟩ rfl (Nat.le_of_ble_eq_true rfl) ⟨Nat.zero_le _, Nat.zero_le _⟩ (fun r1 hp2 => ?_)
  rcases hp2 with ⟨hno4, rfl⟩ | ⟨i4x, hi4, hk4, rfl⟩
  · refine v_astoreN (lv' := [(0, .ref (ad 0)), (1, .int x), (2, .int y), (3, .int z), (4, .int u), (5, .int v), (6, .null)]) C [1, 2, 3, 4, 5, 6, 0] dX8_least_5 (by decide) rfl ?_
    refine v_aloadN C 6 dX8_least_7 rfl ?_
    refine v_ifnullN C 33 dX8_least_9 (by decide) ?_
    refine v_iconst (v := (-1)) C dX8_least_33 (by decide) ?_
    exact v_ret C dX8_least_34 rfl rfl ⟨(ti_any (-1)), hJ⟩
  · obtain ⟨c4, ec4⟩ : ∃ q : Nat, q = 9 + 6 * i4x := ⟨_, rfl⟩
    rw [← ec4]
    have hc4 : PC c4 := by rw [ec4]; exact PC.p hk4
    have hc4l : c4 < 45 := by omega
    have hc4n := hc4.n
    refine v_astore (lv' := [(0, .ref (ad 0)), (1, .int x), (2, .int y), (3, .int z), (4, .int u), (5, .int v), (6, .ref (ad c4))]) C [1, 2, 3, 4, 5, 6, 0] dX8_least_5 (by decide) rfl ?_
    refine v_aload C 6 dX8_least_7 rfl ?_
    refine v_ifnull C dX8_least_9 ?_
    refine v_aload_n C 0 dX8_least_12 rfl rfl ?_
    refine v_iload_n C 2 dX8_least_13 rfl rfl ?_
    refine v_iload_n C 3 dX8_least_14 rfl rfl ?_
    refine v_cVp C dX8_least_15 lX8_219 mX8_isLaw 0 (by omega) hE3 (by decide) rfl (t_X8_isLaw l G ad hJ.1 y z) ⟨by decide, by decide⟩ rfl (Nat.le_of_ble_eq_true rfl) ⟨Nat.zero_le _, Nat.zero_le _⟩ (fun r5 hp6 => ?_)
    rcases hp6 with rfl | rfl
    · refine b_if_eq C 33 dX8_least_18 (by decide) (show (0 : Int32).toInt = 0 by decide) (fun c7 => ?_) (fun c7 => absurd c7 (by decide))
      refine v_iconst (v := (-1)) C dX8_least_33 (by decide) ?_
      exact v_ret C dX8_least_34 rfl rfl ⟨(ti_any (-1)), hJ⟩
    · refine b_if_eq C 33 dX8_least_18 (by decide) (show (1 : Int32).toInt = 1 by decide) (fun c8 => absurd c8 (by decide)) (fun c8 => ?_)
      refine v_iload C 4 dX8_least_21 rfl ?_
      refine v_iload C 5 dX8_least_23 rfl ?_
      refine v_ldc C dX8_least_25 kX8_243 ?_
      refine v_cSp C dX8_least_27 lX8_244 mX8_isReach (t_X8_isReach l G ad hJ.1 u v 2000000) ⟨by decide, by decide⟩ rfl (Nat.le_of_ble_eq_true rfl) ⟨Nat.zero_le _, Nat.zero_le _⟩ (fun r9 hp10 => ?_)
      rcases hp10 with rfl | rfl
      · refine b_if_ne C 35 dX8_least_30 (by decide) (show (0 : Int32).toInt = 0 by decide) (fun c11 => absurd c11 (by decide)) (fun c11 => ?_)
        refine v_iconst (v := (-1)) C dX8_least_33 (by decide) ?_
        exact v_ret C dX8_least_34 rfl rfl ⟨(ti_any (-1)), hJ⟩
      · refine b_if_ne C 35 dX8_least_30 (by decide) (show (1 : Int32).toInt = 1 by decide) (fun c12 => ?_) (fun c12 => absurd c12 (by decide))
        refine v_aload C 6 dX8_least_35 rfl ?_
        obtain ⟨i13, hE13, hb13⟩ := hJ.1.2.2.getO (b := c4) (by omega) (hc4.t0 k)
        refine v_geti (v := i13 7) C c4 dX8_least_37 fX8_198 (by omega) hE13 rfl rfl ?_
        refine v_iconst (v := (-1)) C dX8_least_40 (by decide) ?_
        refine b_icmp_eq C 47 dX8_least_41 (by decide) (rfl : Int32.toInt (i13 7) = _) (show ((-1) : Int32).toInt = (-1) by decide) (fun c14 => ?_) (fun c14 => ?_)
        · refine v_aload_n C 0 dX8_least_47 rfl rfl ?_
          refine v_iload C 4 dX8_least_48 rfl ?_
          refine v_iload C 4 dX8_least_50 rfl ?_
          refine v_iload C 5 dX8_least_52 rfl ?_
          refine v_iadd C dX8_least_54 ?_
          refine v_top (fun x15 _ => ?_)
          refine v_cVv C dX8_least_55 lX8_233 mX8_gatherOdds 0 (by omega) hE3 (by decide) rfl (tz_X8_gatherOdds l G ad hJ u x15) ⟨by decide, by decide⟩ rfl (Nat.le_of_ble_eq_true rfl) ⟨Nat.zero_le _, Nat.zero_le _⟩ (fun E17 hJ19 => ?_)
          refine v_aload_n C 0 dX8_least_58 rfl rfl ?_
          obtain ⟨io20, hE20⟩ := hJ19.c0
          refine v_getr C 0 dX8_least_59 fX8_42 (by omega) hE20 rfl rfl ?_
          refine v_iload_n C 2 dX8_least_62 rfl rfl ?_
          refine v_bipush (v := 10) C dX8_least_63 (by decide) ?_
          refine v_irem C dX8_least_65 (by decide) ?_
          refine v_top (fun x21 _ => ?_)
          refine v_iload_n C 2 dX8_least_66 rfl rfl ?_
          refine v_bipush (v := 10) C dX8_least_67 (by decide) ?_
          refine v_idiv C dX8_least_69 (by decide) ?_
          refine v_top (fun x22 ex22 => ?_)
          have hx22 : (-214748364 : Int) ≤ x22.toInt ∧ x22.toInt ≤ 214748364 := by rw [ex22]; exact ti_tdb (show (10 : Int32).toInt = 10 by decide) (by decide)
          refine v_iload_n C 3 dX8_least_70 rfl rfl ?_
          obtain ⟨i27, hE27, hb27⟩ := hJ19.1.2.2.getO (b := 48) (by omega) rfl
          refine v_cVv C dX8_least_71 lX8_223 mX1_hear 48 (by omega) hE27 (by decide) rfl (tz_X1_hear l G ad hJ19 x21 x22 z) ⟨by decide, by decide⟩ rfl (Nat.le_of_ble_eq_true rfl) ⟨Nat.zero_le _, Nat.zero_le _⟩ (fun E24 hJ26 => ?_)
          refine v_aload_n C 0 dX8_least_74 rfl rfl ?_
          obtain ⟨io28, hE28⟩ := hJ26.c0
          refine v_getr C 0 dX8_least_75 fX8_42 (by omega) hE28 rfl rfl ?_
          refine v_aload C 6 dX8_least_78 rfl ?_
          obtain ⟨i33, hE33, hb33⟩ := hJ26.1.2.2.getO (b := 48) (by omega) rfl
          refine v_cVi C dX8_least_80 lX8_247 mX1_firstBroken 48 (by omega) hE33 (by decide) rfl (tz_X1_firstBroken l G ad hJ26 c4 hc4) ⟨by decide, by decide⟩ rfl (Nat.le_of_ble_eq_true rfl) ⟨Nat.zero_le _, Nat.zero_le _⟩ (fun r29 E30 hp31 => ?_)
          obtain ⟨hp31, hJ32⟩ := hp31
          refine v_istore (lv' := [(0, .ref (ad 0)), (1, .int x), (2, .int y), (3, .int z), (4, .int u), (5, .int v), (6, .ref (ad c4)), (7, .int r29)]) C [1, 2, 3, 4, 5, 6, 7, 0] dX8_least_83 (by decide) rfl ?_
          refine v_iload C 7 dX8_least_85 rfl ?_
          refine v_iconst (v := (-1)) C dX8_least_87 (by decide) ?_
          refine b_icmp_ne C 96 dX8_least_88 (by decide) (rfl : Int32.toInt r29 = _) (show ((-1) : Int32).toInt = (-1) by decide) (fun c34 => ?_) (fun c34 => ?_)
          · refine v_iload C 7 dX8_least_96 rfl ?_
            exact v_ret C dX8_least_98 rfl rfl ⟨(ti_any r29), hJ32⟩
          · refine v_bipush (v := (-6)) C dX8_least_91 (by decide) ?_
            refine v_goto C 98 dX8_least_93 (by decide) ?_
            exact v_ret C dX8_least_98 rfl rfl ⟨(ti_any (-6)), hJ32⟩
        · refine v_bipush (v := (-4)) C dX8_least_44 (by decide) ?_
          exact v_ret C dX8_least_46 rfl rfl ⟨(ti_any (-4)), hJ⟩

set_option maxRecDepth 20000 in
theorem tz_X8_mend (l : Launch) (G : Gl) (ad : Nat → Nat) {k : Nat} {Z : (Nat → va_E) → Prop} {Y : Nat → Int32 → (Nat → va_E) → Prop} {E0 E : Nat → va_E} (hJ : JZ l G ad k Z Y E0 E) (x : Int32) (y : Int32) (z : Int32) (u : Int32) (v : Int32) : CtI l G yX8_mend cX8_mend 8 .int 7 170 (98 + 9 * k) ad E [.ref (ad 0), .int x, .int y, .int z, .int u, .int v] (fun r E' => ((-2147483648 : Int) ≤ r.toInt ∧ r.toInt ≤ 2147483647) ∧ JZ l G ad k Z Y E0 E') := by
  refine CtI.of (by decide) (Nat.le_of_ble_eq_true rfl) (fun X A C => ?_)
  refine v_sub (lv' := [(0, .ref (ad 0)), (1, .int x), (2, .int y), (3, .int z), (4, .int u), (5, .int v)]) [0, 1, 2, 3, 4, 5] rfl ?_
  have hk5 := hJ.1.1
  refine v_aload_n C 0 dX8_mend_0 rfl rfl ?_
  refine v_iload_n C 1 dX8_mend_1 rfl rfl ?_
  obtain ⟨io3, hE3⟩ := hJ.c0
  refine v_cVr C dX8_mend_2 lX8_177 mX8_programAt 0 (by omega) hE3 (by decide) rfl (t_X8_programAt l G ad hJ.1 x) ⟨by decide, by decide⟩ rfl (Nat.le_of_ble_eq_true rfl) ⟨Nat.zero_le _, Nat.zero_le _⟩ (fun r1 hp2 => ?_)
  rcases hp2 with ⟨hno4, rfl⟩ | ⟨i4x, hi4, hk4, rfl⟩
  · refine v_astoreN (lv' := [(0, .ref (ad 0)), (1, .int x), (2, .int y), (3, .int z), (4, .int u), (5, .int v), (6, .null)]) C [1, 2, 3, 4, 5, 6, 0] dX8_mend_5 (by decide) rfl ?_
    refine v_aloadN C 6 dX8_mend_7 rfl ?_
    refine v_ifnullN C 33 dX8_mend_9 (by decide) ?_
    refine v_iconst (v := (-1)) C dX8_mend_33 (by decide) ?_
    exact v_ret C dX8_mend_34 rfl rfl ⟨(ti_any (-1)), hJ⟩
  · obtain ⟨c4, ec4⟩ : ∃ q : Nat, q = 9 + 6 * i4x := ⟨_, rfl⟩
    rw [← ec4]
    have hc4 : PC c4 := by rw [ec4]; exact PC.p hk4
    have hc4l : c4 < 45 := by omega
    have hc4n := hc4.n
    refine v_astore (lv' := [(0, .ref (ad 0)), (1, .int x), (2, .int y), (3, .int z), (4, .int u), (5, .int v), (6, .ref (ad c4))]) C [1, 2, 3, 4, 5, 6, 0] dX8_mend_5 (by decide) rfl ?_
    refine v_aload C 6 dX8_mend_7 rfl ?_
    refine v_ifnull C dX8_mend_9 ?_
    refine v_aload_n C 0 dX8_mend_12 rfl rfl ?_
    refine v_iload_n C 2 dX8_mend_13 rfl rfl ?_
    refine v_iload_n C 3 dX8_mend_14 rfl rfl ?_
    refine v_cVp C dX8_mend_15 lX8_219 mX8_isLaw 0 (by omega) hE3 (by decide) rfl (t_X8_isLaw l G ad hJ.1 y z) ⟨by decide, by decide⟩ rfl (Nat.le_of_ble_eq_true rfl) ⟨Nat.zero_le _, Nat.zero_le _⟩ (fun r5 hp6 => ?_)
    rcases hp6 with rfl | rfl
    · refine b_if_eq C 33 dX8_mend_18 (by decide) (show (0 : Int32).toInt = 0 by decide) (fun c7 => ?_) (fun c7 => absurd c7 (by decide))
      refine v_iconst (v := (-1)) C dX8_mend_33 (by decide) ?_
      exact v_ret C dX8_mend_34 rfl rfl ⟨(ti_any (-1)), hJ⟩
    · refine b_if_eq C 33 dX8_mend_18 (by decide) (show (1 : Int32).toInt = 1 by decide) (fun c8 => absurd c8 (by decide)) (fun c8 => ?_)
      refine v_iload C 4 dX8_mend_21 rfl ?_
      refine v_iload C 5 dX8_mend_23 rfl ?_
      refine v_ldc C dX8_mend_25 kX8_251 ?_
      refine v_cSp C dX8_mend_27 lX8_244 mX8_isReach (t_X8_isReach l G ad hJ.1 u v 100000) ⟨by decide, by decide⟩ rfl (Nat.le_of_ble_eq_true rfl) ⟨Nat.zero_le _, Nat.zero_le _⟩ (fun r9 hp10 => ?_)
      rcases hp10 with rfl | rfl
      · refine b_if_ne C 35 dX8_mend_30 (by decide) (show (0 : Int32).toInt = 0 by decide) (fun c11 => absurd c11 (by decide)) (fun c11 => ?_)
        refine v_iconst (v := (-1)) C dX8_mend_33 (by decide) ?_
        exact v_ret C dX8_mend_34 rfl rfl ⟨(ti_any (-1)), hJ⟩
      · refine b_if_ne C 35 dX8_mend_30 (by decide) (show (1 : Int32).toInt = 1 by decide) (fun c12 => ?_) (fun c12 => absurd c12 (by decide))
        refine v_aload_n C 0 dX8_mend_35 rfl rfl ?_
        refine v_iload C 4 dX8_mend_36 rfl ?_
        refine v_iload C 4 dX8_mend_38 rfl ?_
        refine v_iload C 5 dX8_mend_40 rfl ?_
        refine v_iadd C dX8_mend_42 ?_
        refine v_top (fun x13 _ => ?_)
        refine v_cVv C dX8_mend_43 lX8_233 mX8_gatherOdds 0 (by omega) hE3 (by decide) rfl (tz_X8_gatherOdds l G ad hJ u x13) ⟨by decide, by decide⟩ rfl (Nat.le_of_ble_eq_true rfl) ⟨Nat.zero_le _, Nat.zero_le _⟩ (fun E15 hJ17 => ?_)
        refine v_aload_n C 0 dX8_mend_46 rfl rfl ?_
        obtain ⟨io18, hE18⟩ := hJ17.c0
        refine v_getr C 0 dX8_mend_47 fX8_42 (by omega) hE18 rfl rfl ?_
        refine v_iload_n C 2 dX8_mend_50 rfl rfl ?_
        refine v_bipush (v := 10) C dX8_mend_51 (by decide) ?_
        refine v_irem C dX8_mend_53 (by decide) ?_
        refine v_top (fun x19 _ => ?_)
        refine v_iload_n C 2 dX8_mend_54 rfl rfl ?_
        refine v_bipush (v := 10) C dX8_mend_55 (by decide) ?_
        refine v_idiv C dX8_mend_57 (by decide) ?_
        refine v_top (fun x20 ex20 => ?_)
        have hx20 : (-214748364 : Int) ≤ x20.toInt ∧ x20.toInt ≤ 214748364 := by rw [ex20]; exact ti_tdb (show (10 : Int32).toInt = 10 by decide) (by decide)
        refine v_iload_n C 3 dX8_mend_58 rfl rfl ?_
        obtain ⟨i25, hE25, hb25⟩ := hJ17.1.2.2.getO (b := 48) (by omega) rfl
        refine v_cVv C dX8_mend_59 lX8_223 mX1_hear 48 (by omega) hE25 (by decide) rfl (tz_X1_hear l G ad hJ17 x19 x20 z) ⟨by decide, by decide⟩ rfl (Nat.le_of_ble_eq_true rfl) ⟨Nat.zero_le _, Nat.zero_le _⟩ (fun E22 hJ24 => ?_)
        refine v_aload_n C 0 dX8_mend_62 rfl rfl ?_
        obtain ⟨io26, hE26⟩ := hJ24.c0
        refine v_getr C 0 dX8_mend_63 fX8_51 (by omega) hE26 rfl rfl ?_
        refine v_aload C 6 dX8_mend_66 rfl ?_
        obtain ⟨i31, hE31, hb31⟩ := hJ24.1.2.2.getO (b := 51) (by omega) rfl
        refine v_cVi C dX8_mend_68 lX8_252 mX3_search 51 (by omega) hE31 (by decide) rfl (tz_X3_search l G ad hJ24 c4 hc4 (by omega)) ⟨by decide, by decide⟩ rfl (Nat.le_of_ble_eq_true rfl) ⟨Nat.zero_le _, Nat.zero_le _⟩ (fun r27 E28 hp29 => ?_)
        obtain ⟨hp29, hJ30⟩ := hp29
        refine v_istore (lv' := [(0, .ref (ad 0)), (1, .int x), (2, .int y), (3, .int z), (4, .int u), (5, .int v), (6, .ref (ad c4)), (7, .int r27)]) C [1, 2, 3, 4, 5, 6, 7, 0] dX8_mend_71 (by decide) rfl ?_
        refine v_iload C 7 dX8_mend_73 rfl ?_
        refine v_iconst (v := (-1)) C dX8_mend_75 (by decide) ?_
        refine b_icmp_ne C 84 dX8_mend_76 (by decide) (rfl : Int32.toInt r27 = _) (show ((-1) : Int32).toInt = (-1) by decide) (fun c32 => ?_) (fun c32 => ?_)
        · refine v_iload C 7 dX8_mend_84 rfl ?_
          exact v_ret C dX8_mend_86 rfl rfl ⟨(ti_any r27), hJ30⟩
        · refine v_bipush (v := (-6)) C dX8_mend_79 (by decide) ?_
          refine v_goto C 86 dX8_mend_81 (by decide) ?_
          exact v_ret C dX8_mend_86 rfl rfl ⟨(ti_any (-6)), hJ30⟩

set_option maxRecDepth 20000 in
theorem tz_X8_meetings (l : Launch) (G : Gl) (ad : Nat → Nat) {k : Nat} {Z : (Nat → va_E) → Prop} {Y : Nat → Int32 → (Nat → va_E) → Prop} {E0 E : Nat → va_E} (hJ : JZ l G ad k Z Y E0 E) (x : Int32) (y : Int32) (z : Int32) (u : Int32) (v : Int32) : CtI l G yX8_meetings cX8_meetings 12 .int 4 95 (98 + 9 * k) ad E [.ref (ad 0), .int x, .int y, .int z, .int u, .int v] (fun r E' => ((-2147483648 : Int) ≤ r.toInt ∧ r.toInt ≤ 2147483647) ∧ JZ l G ad k Z Y E0 E') := by
  refine CtI.of (by decide) (Nat.le_of_ble_eq_true rfl) (fun X A C => ?_)
  refine v_sub (lv' := [(0, .ref (ad 0)), (1, .int x), (2, .int y), (3, .int z), (4, .int u), (5, .int v)]) [0, 1, 2, 3, 4, 5] rfl ?_
  have hk5 := hJ.1.1
  refine v_aload_n C 0 dX8_meetings_0 rfl rfl ?_
  refine v_iload_n C 1 dX8_meetings_1 rfl rfl ?_
  obtain ⟨io5, hE5⟩ := hJ.c0
  refine v_cVq C dX8_meetings_2 lX8_153 mX8_freshZone 0 (by omega) hE5 (by decide) rfl (tz_X8_freshZone l G ad hJ x) ⟨by decide, by decide⟩ rfl (Nat.le_of_ble_eq_true rfl) ⟨Nat.zero_le _, Nat.zero_le _⟩ (fun r1 E3 hp2 => ?_)
  obtain ⟨hp2, hJ4⟩ := hp2
  rcases hp2 with ⟨hno6, rfl⟩ | ⟨i6x, hi6, hk6, rfl⟩
  · refine v_astoreN (lv' := [(0, .ref (ad 0)), (1, .int x), (2, .int y), (3, .int z), (4, .int u), (5, .int v), (6, .null)]) C [1, 2, 3, 4, 5, 6, 0] dX8_meetings_5 (by decide) rfl ?_
    refine v_aloadN C 6 dX8_meetings_7 rfl ?_
    refine v_ifnullN C 40 dX8_meetings_9 (by decide) ?_
    refine v_iconst (v := (-1)) C dX8_meetings_40 (by decide) ?_
    exact v_ret C dX8_meetings_41 rfl rfl ⟨(ti_any (-1)), hJ4⟩
  · obtain ⟨b6, eb6⟩ : ∃ q : Nat, q = 98 + 9 * i6x := ⟨_, rfl⟩
    rw [← eb6]
    have hb6 : ZC k b6 := ⟨_, hk6, eb6⟩
    have hb6n := hb6.n
    refine v_astore (lv' := [(0, .ref (ad 0)), (1, .int x), (2, .int y), (3, .int z), (4, .int u), (5, .int v), (6, .ref (ad b6))]) C [1, 2, 3, 4, 5, 6, 0] dX8_meetings_5 (by decide) rfl ?_
    refine v_aload C 6 dX8_meetings_7 rfl ?_
    refine v_ifnull C dX8_meetings_9 ?_
    refine v_iload_n C 2 dX8_meetings_12 rfl rfl ?_
    refine b_if_lt C 40 dX8_meetings_13 (by decide) (rfl : Int32.toInt y = _) (fun c7 => ?_) (fun c7 => ?_)
    · refine v_iconst (v := (-1)) C dX8_meetings_40 (by decide) ?_
      exact v_ret C dX8_meetings_41 rfl rfl ⟨(ti_any (-1)), hJ4⟩
    · refine v_iload_n C 2 dX8_meetings_16 rfl rfl ?_
      refine v_bipush (v := 10) C dX8_meetings_17 (by decide) ?_
      refine v_idiv C dX8_meetings_19 (by decide) ?_
      have := ti_any y
      refine v_top (fun x8 ex8 => ?_)
      have hx8 : x8.toInt = (y.toInt / 10) := by rw [ex8]; exact ti_div (rfl : Int32.toInt y = _) (show (10 : Int32).toInt = 10 by decide) (by omega) (by omega)
      refine v_cSp C dX8_meetings_20 lX8_136 mX8_isMinute (c_isMinute l G _ ad _ x8) ⟨by decide, by decide⟩ rfl (Nat.le_of_ble_eq_true rfl) ⟨Nat.zero_le _, Nat.zero_le _⟩ (fun r9 hp10 => ?_)
      rcases hp10 with ⟨rfl, hp10⟩ | ⟨rfl, hp10⟩
      · refine b_if_eq C 40 dX8_meetings_23 (by decide) (show (1 : Int32).toInt = 1 by decide) (fun c11 => absurd c11 (by decide)) (fun c11 => ?_)
        refine v_aload_n C 0 dX8_meetings_26 rfl rfl ?_
        obtain ⟨io12, hE12⟩ := hJ4.c0
        refine v_getr C 0 dX8_meetings_27 fX8_12 (by omega) hE12 rfl rfl ?_
        refine v_iload_n C 2 dX8_meetings_30 rfl rfl ?_
        refine v_bipush (v := 10) C dX8_meetings_31 (by decide) ?_
        refine v_irem C dX8_meetings_33 (by decide) ?_
        have := ti_any y
        refine v_top (fun x13 ex13 => ?_)
        have hx13 : x13.toInt = (y.toInt % 10) := by rw [ex13]; exact ti_rem (rfl : Int32.toInt y = _) (show (10 : Int32).toInt = 10 by decide) (by omega) (by omega)
        obtain ⟨ic16, md16, ms16, ld16, ys16, hC116, hC216, hC316, hC416, hC516, hCP16, hCF16⟩ := hJ4.cal
        have hCl16 := cal_b hCP16
        have hCy16 := cal_y hCP16
        refine v_cVp C dX8_meetings_34 lX8_116 mX0_isWeekday 1 (by omega) hC116 (by decide) rfl (c_isWeekday l G _ ad _ (by omega) hC116 hC216 hC316 hC416 hC516 hCP16 hCF16 x13) ⟨by decide, by decide⟩ rfl (Nat.le_of_ble_eq_true rfl) ⟨Nat.zero_le _, Nat.zero_le _⟩ (fun r14 hp15 => ?_)
        rcases hp15 with ⟨rfl, hp15⟩ | ⟨rfl, hp15⟩
        · refine b_if_ne C 42 dX8_meetings_37 (by decide) (show (1 : Int32).toInt = 1 by decide) (fun c17 => ?_) (fun c17 => absurd c17 (by decide))
          refine v_aload_n C 0 dX8_meetings_42 rfl rfl ?_
          refine v_getr C 0 dX8_meetings_43 fX8_12 (by omega) hE12 rfl rfl ?_
          refine v_iload_n C 3 dX8_meetings_46 rfl rfl ?_
          refine v_cVp C dX8_meetings_47 lX8_99 mX0_has 1 (by omega) hC116 (by decide) rfl (c_has l G _ ad _ (by omega) hC116 hC216 hC316 hC416 hC516 hCP16 hCF16 z) ⟨by decide, by decide⟩ rfl (Nat.le_of_ble_eq_true rfl) ⟨Nat.zero_le _, Nat.zero_le _⟩ (fun r18 hp19 => ?_)
          rcases hp19 with ⟨rfl, hp19⟩ | ⟨rfl, hp19⟩
          · refine b_if_eq C 92 dX8_meetings_50 (by decide) (show (1 : Int32).toInt = 1 by decide) (fun c20 => absurd c20 (by decide)) (fun c20 => ?_)
            refine v_aload_n C 0 dX8_meetings_53 rfl rfl ?_
            refine v_getr C 0 dX8_meetings_54 fX8_12 (by omega) hE12 rfl rfl ?_
            refine v_iload C 4 dX8_meetings_57 rfl ?_
            refine v_cVp C dX8_meetings_59 lX8_99 mX0_has 1 (by omega) hC116 (by decide) rfl (c_has l G _ ad _ (by omega) hC116 hC216 hC316 hC416 hC516 hCP16 hCF16 u) ⟨by decide, by decide⟩ rfl (Nat.le_of_ble_eq_true rfl) ⟨Nat.zero_le _, Nat.zero_le _⟩ (fun r21 hp22 => ?_)
            rcases hp22 with ⟨rfl, hp22⟩ | ⟨rfl, hp22⟩
            · refine b_if_eq C 92 dX8_meetings_62 (by decide) (show (1 : Int32).toInt = 1 by decide) (fun c23 => absurd c23 (by decide)) (fun c23 => ?_)
              refine v_iload C 4 dX8_meetings_65 rfl ?_
              refine v_iload_n C 3 dX8_meetings_67 rfl rfl ?_
              refine b_icmp_lt C 92 dX8_meetings_68 (by decide) (rfl : Int32.toInt u = _) (rfl : Int32.toInt z = _) (fun c24 => ?_) (fun c24 => ?_)
              · refine v_iconst (v := (-1)) C dX8_meetings_92 (by decide) ?_
                exact v_ret C dX8_meetings_93 rfl rfl ⟨(ti_any (-1)), hJ4⟩
              · refine v_iload C 4 dX8_meetings_71 rfl ?_
                refine v_iload_n C 3 dX8_meetings_73 rfl rfl ?_
                refine v_isub C dX8_meetings_74 ?_
                refine v_top (fun x25 ex25 => ?_)
                have hx25 : x25.toInt = (u.toInt - z.toInt) := by rw [ex25]; exact ti_sub (rfl : Int32.toInt u = _) (rfl : Int32.toInt z = _) (by omega) (by omega)
                refine v_sipush (v := 4000) C dX8_meetings_75 (by decide) ?_
                refine b_icmp_gt C 92 dX8_meetings_78 (by decide) hx25 (show (4000 : Int32).toInt = 4000 by decide) (fun c26 => ?_) (fun c26 => ?_)
                · refine v_iconst (v := (-1)) C dX8_meetings_92 (by decide) ?_
                  exact v_ret C dX8_meetings_93 rfl rfl ⟨(ti_any (-1)), hJ4⟩
                · refine v_iload C 5 dX8_meetings_81 rfl ?_
                  refine b_if_lt C 92 dX8_meetings_83 (by decide) (rfl : Int32.toInt v = _) (fun c27 => ?_) (fun c27 => ?_)
                  · refine v_iconst (v := (-1)) C dX8_meetings_92 (by decide) ?_
                    exact v_ret C dX8_meetings_93 rfl rfl ⟨(ti_any (-1)), hJ4⟩
                  · refine v_iload C 5 dX8_meetings_86 rfl ?_
                    refine v_iconst (v := 2) C dX8_meetings_88 (by decide) ?_
                    refine b_icmp_le C 94 dX8_meetings_89 (by decide) (rfl : Int32.toInt v = _) (show (2 : Int32).toInt = 2 by decide) (fun c28 => ?_) (fun c28 => ?_)
                    · refine v_iconst (v := 1) C dX8_meetings_94 (by decide) ?_
                      refine v_aload_n C 0 dX8_meetings_95 rfl rfl ?_
                      refine v_getr C 0 dX8_meetings_96 fX8_12 (by omega) hE12 rfl rfl ?_
                      refine v_geti (v := ic16 7) C 1 dX8_meetings_99 fX8_83 (by omega) hC116 rfl rfl ?_
                      refine v_mmax C dX8_meetings_102 lX8_268 mJ9_max_7cf53.2.2.1 mJ9_max_7cf53.2.1 mJ9_max_7cf53.1 ⟨by decide, Nat.le_of_ble_eq_true rfl⟩ ⟨Nat.zero_le _, Nat.zero_le _⟩ ?_
                      refine v_top (fun x29 ex29 => ?_)
                      have hx29 : 1 ≤ x29.toInt ∧ (ic16 7).toInt ≤ x29.toInt ∧ (x29.toInt = 1 ∨ x29.toInt = (ic16 7).toInt) := by rw [ex29]; exact mmax_b (show (1 : Int32).toInt = 1 by decide) (rfl : Int32.toInt (ic16 7) = _)
                      refine v_istore (lv' := [(0, .ref (ad 0)), (1, .int x), (2, .int y), (3, .int z), (4, .int u), (5, .int v), (6, .ref (ad b6)), (7, .int x29)]) C [1, 2, 3, 4, 5, 6, 7, 0] dX8_meetings_105 (by decide) rfl ?_
                      refine v_iload_n C 3 dX8_meetings_107 rfl rfl ?_
                      refine v_iload_n C 2 dX8_meetings_108 rfl rfl ?_
                      refine v_bipush (v := 10) C dX8_meetings_109 (by decide) ?_
                      refine v_irem C dX8_meetings_111 (by decide) ?_
                      have := ti_any y
                      refine v_top (fun x30 ex30 => ?_)
                      have hx30 : x30.toInt = (y.toInt % 10) := by rw [ex30]; exact ti_rem (rfl : Int32.toInt y = _) (show (10 : Int32).toInt = 10 by decide) (by omega) (by omega)
                      refine v_aload_n C 0 dX8_meetings_112 rfl rfl ?_
                      refine v_getr C 0 dX8_meetings_113 fX8_12 (by omega) hE12 rfl rfl ?_
                      refine v_iload_n C 3 dX8_meetings_116 rfl rfl ?_
                      refine v_cVp C dX8_meetings_117 lX8_102 mX0_weekdayOf 1 (by omega) hC116 (by decide) rfl (t_X0_weekdayOf l G ad hJ4.1 z) ⟨by decide, by decide⟩ rfl (Nat.le_of_ble_eq_true rfl) ⟨Nat.zero_le _, Nat.zero_le _⟩ (fun r31 hp32 => ?_)
                      refine v_isub C dX8_meetings_120 ?_
                      refine v_top (fun x33 _ => ?_)
                      refine v_iload C 7 dX8_meetings_121 rfl ?_
                      refine v_cSp C dX8_meetings_123 lX8_273 mX8_rest (c_rest l G _ ad _ x33 x29) ⟨by decide, by decide⟩ rfl (Nat.le_of_ble_eq_true rfl) ⟨Nat.zero_le _, Nat.zero_le _⟩ (fun r34 hp35 => ?_)
                      have hr34r := rest_b hp35
                      have hr34 : (0 : Int) ≤ r34.toInt ∧ r34.toInt ≤ 9 := by omega
                      refine v_iadd C dX8_meetings_126 ?_
                      refine v_top (fun x36 ex36 => ?_)
                      have hx36 : x36.toInt = (z.toInt + r34.toInt) := by rw [ex36]; exact ti_add (rfl : Int32.toInt z = _) (rfl : Int32.toInt r34 = _) (by omega) (by omega)
                      refine v_istore (lv' := [(0, .ref (ad 0)), (1, .int x), (2, .int y), (3, .int z), (4, .int u), (5, .int v), (6, .ref (ad b6)), (7, .int x29), (8, .int x36)]) C [1, 2, 3, 4, 5, 6, 7, 8, 0] dX8_meetings_127 (by decide) rfl ?_
                      refine v_iconst (v := 0) C dX8_meetings_129 (by decide) ?_
                      refine v_istore (lv' := [(0, .ref (ad 0)), (1, .int x), (2, .int y), (3, .int z), (4, .int u), (5, .int v), (6, .ref (ad b6)), (7, .int x29), (8, .int x36), (9, .int 0)]) C [1, 2, 3, 4, 5, 6, 7, 8, 9, 0] dX8_meetings_130 (by decide) rfl ?_
                      refine v_iload C 8 dX8_meetings_132 rfl ?_
                      refine v_istore (lv' := [(0, .ref (ad 0)), (1, .int x), (2, .int y), (3, .int z), (4, .int u), (5, .int v), (6, .ref (ad b6)), (7, .int x29), (8, .int x36), (9, .int 0), (10, .int x36)]) C [1, 2, 3, 4, 5, 6, 7, 8, 9, 10, 0] dX8_meetings_134 (by decide) rfl ?_
                      have LP37 : ∀ (t : Nat) (E40 : Nat → va_E) (y38 : Int32) (y39 : Int32), JZ l G ad k Z Y E0 E40 → ((0 : Int) ≤ y39.toInt ∧ y39.toInt ≤ 48200) → 48201 - y39.toInt < (t : Int) → V X G A 12 (QI X G A (98 + 9 * k) ad (fun r E' => ((-2147483648 : Int) ≤ r.toInt ∧ r.toInt ≤ 2147483647) ∧ JZ l G ad k Z Y E0 E')) (98 + 9 * k) ad 0 0 E40 136 [(2, .int y), (4, .int u), (5, .int v), (6, .ref (ad b6)), (7, .int x29), (9, .int y38), (10, .int y39)] [] := by
                        intro t44
                        induction t44 with
                        | zero => intro E40 y38 y39 hJ41 hy39 hm43; exfalso; omega
                        | succ t44 ih42 =>
                          intro E40 y38 y39 hJ41 hy39 hm43
                          refine v_iload C 6 dX8_meetings_136 rfl ?_
                          refine v_iload C 1 dX8_meetings_138 rfl ?_
                          refine b_icmp_gt C 205 dX8_meetings_140 (by decide) (rfl : Int32.toInt y39 = _) (rfl : Int32.toInt u = _) (fun c45 => ?_) (fun c45 => ?_)
                          · refine v_iload C 5 dX8_meetings_205 rfl ?_
                            exact v_ret C dX8_meetings_207 rfl rfl ⟨(ti_any y38), hJ41⟩
                          · have JN46 : ∀ (E48 : Nat → va_E) (y47 : Int32), JZ l G ad k Z Y E0 E48 → V X G A 12 (QI X G A (98 + 9 * k) ad (fun r E' => ((-2147483648 : Int) ≤ r.toInt ∧ r.toInt ≤ 2147483647) ∧ JZ l G ad k Z Y E0 E')) (98 + 9 * k) ad 0 0 E48 195 [(2, .int y), (4, .int u), (5, .int v), (6, .ref (ad b6)), (7, .int x29), (9, .int y47), (10, .int y39)] [] := by
                              intro E48 y47 hJ49
                              refine v_iload C 6 dX8_meetings_195 rfl ?_
                              refine v_iload C 4 dX8_meetings_197 rfl ?_
                              refine v_iadd C dX8_meetings_199 ?_
                              refine v_top (fun x50 ex50 => ?_)
                              have hx50 : x50.toInt = (y39.toInt + x29.toInt) := by rw [ex50]; exact ti_add (rfl : Int32.toInt y39 = _) (rfl : Int32.toInt x29 = _) (by omega) (by omega)
                              refine v_istore (lv' := [(2, .int y), (4, .int u), (5, .int v), (6, .ref (ad b6)), (7, .int x29), (9, .int y47), (10, .int x50)]) C [1, 2, 3, 4, 5, 6, 0] dX8_meetings_200 (by decide) rfl ?_
                              refine v_goto C 136 dX8_meetings_202 (by decide) ?_
                              exact ih42 _ y47 x50 hJ49 (by have := ti_any y47; have := hx50; omega) (by have := ti_any y47; have := hx50; omega)
                            refine v_iload C 2 dX8_meetings_143 rfl ?_
                            refine v_iconst (v := 2) C dX8_meetings_145 (by decide) ?_
                            refine b_icmp_ne C 155 dX8_meetings_146 (by decide) (rfl : Int32.toInt v = _) (show (2 : Int32).toInt = 2 by decide) (fun c51 => ?_) (fun c51 => ?_)
                            · refine v_aload C 3 dX8_meetings_155 rfl ?_
                              refine v_iload C 6 dX8_meetings_157 rfl ?_
                              refine v_sipush (v := 1440) C dX8_meetings_159 (by decide) ?_
                              refine v_imul C dX8_meetings_162 ?_
                              refine v_top (fun x52 ex52 => ?_)
                              have hx52 : x52.toInt = (y39.toInt * 1440) := by rw [ex52]; exact ti_mul (rfl : Int32.toInt y39 = _) (show (1440 : Int32).toInt = 1440 by decide) (by omega) (by omega)
                              refine v_iload_n C 0 dX8_meetings_163 rfl rfl ?_
                              refine v_bipush (v := 10) C dX8_meetings_164 (by decide) ?_
                              refine v_idiv C dX8_meetings_166 (by decide) ?_
                              have := ti_any y
                              refine v_top (fun x53 ex53 => ?_)
                              have hx53 : x53.toInt = (y.toInt / 10) := by rw [ex53]; exact ti_div (rfl : Int32.toInt y = _) (show (10 : Int32).toInt = 10 by decide) (by omega) (by omega)
                              refine v_iadd C dX8_meetings_167 ?_
                              refine v_top (fun x54 ex54 => ?_)
                              have hx54 : x54.toInt = ((y39.toInt * 1440) + (y.toInt / 10)) := by rw [ex54]; exact ti_add hx52 hx53 (by omega) (by omega)
                              obtain ⟨i57, hE57, hb57⟩ := hJ41.1.2.2.getO (b := b6) (by omega) hb6.t0
                              refine v_cVp C dX8_meetings_168 lX8_171 mX6_momentsOf b6 (by omega) hE57 (by decide) rfl (t_X6_momentsOf l G ad hJ41.1 b6 hb6 x54) ⟨by decide, by decide⟩ rfl (Nat.le_of_ble_eq_true rfl) ⟨Nat.zero_le _, Nat.zero_le _⟩ (fun r55 hp56 => ?_)
                              refine v_istore (lv' := [(2, .int y), (4, .int u), (5, .int v), (6, .ref (ad b6)), (7, .int x29), (9, .int y38), (10, .int y39), (11, .int r55)]) C [1, 2, 3, 4, 5, 6, 7, 0] dX8_meetings_171 (by decide) rfl ?_
                              refine v_iload C 2 dX8_meetings_173 rfl ?_
                              refine b_if_ne C 186 dX8_meetings_175 (by decide) (rfl : Int32.toInt v = _) (fun c58 => ?_) (fun c58 => ?_)
                              · refine v_iload C 7 dX8_meetings_186 rfl ?_
                                refine v_iconst (v := 1) C dX8_meetings_188 (by decide) ?_
                                refine b_icmp_le C 195 dX8_meetings_189 (by decide) (rfl : Int32.toInt r55 = _) (show (1 : Int32).toInt = 1 by decide) (fun c59 => ?_) (fun c59 => ?_)
                                · refine v_sub (lv' := [(2, .int y), (4, .int u), (5, .int v), (6, .ref (ad b6)), (7, .int x29), (9, .int y38), (10, .int y39)]) [0, 1, 2, 3, 4, 5, 6] rfl ?_
                                  exact JN46 _ y38 hJ41 
                                · obtain ⟨x60, ex60⟩ : ∃ y : Int32, y = y38 + 1 := ⟨_, rfl⟩
                                  refine v_iinc (v := x60) (lv' := [(2, .int y), (4, .int u), (5, .int v), (6, .ref (ad b6)), (7, .int x29), (9, .int x60), (10, .int y39), (11, .int r55)]) C 5 [1, 2, 3, 4, 5, 0, 6, 7] dX8_meetings_192 rfl (ex60.symm) (by decide) rfl ?_
                                  refine v_sub (lv' := [(2, .int y), (4, .int u), (5, .int v), (6, .ref (ad b6)), (7, .int x29), (9, .int x60), (10, .int y39)]) [0, 1, 2, 3, 4, 5, 6] rfl ?_
                                  exact JN46 _ x60 hJ41 
                              · refine v_iload C 7 dX8_meetings_178 rfl ?_
                                refine b_if_ne C 195 dX8_meetings_180 (by decide) (rfl : Int32.toInt r55 = _) (fun c61 => ?_) (fun c61 => ?_)
                                · refine v_sub (lv' := [(2, .int y), (4, .int u), (5, .int v), (6, .ref (ad b6)), (7, .int x29), (9, .int y38), (10, .int y39)]) [0, 1, 2, 3, 4, 5, 6] rfl ?_
                                  exact JN46 _ y38 hJ41 
                                · refine v_goto C 192 dX8_meetings_183 (by decide) ?_
                                  obtain ⟨x62, ex62⟩ : ∃ y : Int32, y = y38 + 1 := ⟨_, rfl⟩
                                  refine v_iinc (v := x62) (lv' := [(2, .int y), (4, .int u), (5, .int v), (6, .ref (ad b6)), (7, .int x29), (9, .int x62), (10, .int y39), (11, .int r55)]) C 5 [1, 2, 3, 4, 5, 0, 6, 7] dX8_meetings_192 rfl (ex62.symm) (by decide) rfl ?_
                                  refine v_sub (lv' := [(2, .int y), (4, .int u), (5, .int v), (6, .ref (ad b6)), (7, .int x29), (9, .int x62), (10, .int y39)]) [0, 1, 2, 3, 4, 5, 6] rfl ?_
                                  exact JN46 _ x62 hJ41 
                            · obtain ⟨x63, ex63⟩ : ∃ y : Int32, y = y38 + 1 := ⟨_, rfl⟩
                              refine v_iinc (v := x63) (lv' := [(2, .int y), (4, .int u), (5, .int v), (6, .ref (ad b6)), (7, .int x29), (9, .int x63), (10, .int y39)]) C 5 [1, 2, 3, 4, 5, 0, 6] dX8_meetings_149 rfl (ex63.symm) (by decide) rfl ?_
                              refine v_goto C 195 dX8_meetings_152 (by decide) ?_
                              exact JN46 _ x63 hJ41 
                      refine v_sub (lv' := [(2, .int y), (4, .int u), (5, .int v), (6, .ref (ad b6)), (7, .int x29), (9, .int 0), (10, .int x36)]) [2, 4, 5, 6, 7, 9, 10] rfl ?_
                      exact LP37 100000 _ 0 x36 hJ4 (by have := (show (0 : Int32).toInt = 0 by decide); have := hx36; omega) (by have := (show (0 : Int32).toInt = 0 by decide); have := hx36; omega)
                    · refine v_iconst (v := (-1)) C dX8_meetings_92 (by decide) ?_
                      exact v_ret C dX8_meetings_93 rfl rfl ⟨(ti_any (-1)), hJ4⟩
            · refine b_if_eq C 92 dX8_meetings_62 (by decide) (show (0 : Int32).toInt = 0 by decide) (fun c64 => ?_) (fun c64 => absurd c64 (by decide))
              refine v_iconst (v := (-1)) C dX8_meetings_92 (by decide) ?_
              exact v_ret C dX8_meetings_93 rfl rfl ⟨(ti_any (-1)), hJ4⟩
          · refine b_if_eq C 92 dX8_meetings_50 (by decide) (show (0 : Int32).toInt = 0 by decide) (fun c65 => ?_) (fun c65 => absurd c65 (by decide))
            refine v_iconst (v := (-1)) C dX8_meetings_92 (by decide) ?_
            exact v_ret C dX8_meetings_93 rfl rfl ⟨(ti_any (-1)), hJ4⟩
        · refine b_if_ne C 42 dX8_meetings_37 (by decide) (show (0 : Int32).toInt = 0 by decide) (fun c66 => absurd c66 (by decide)) (fun c66 => ?_)
          refine v_iconst (v := (-1)) C dX8_meetings_40 (by decide) ?_
          exact v_ret C dX8_meetings_41 rfl rfl ⟨(ti_any (-1)), hJ4⟩
      · refine b_if_eq C 40 dX8_meetings_23 (by decide) (show (0 : Int32).toInt = 0 by decide) (fun c67 => ?_) (fun c67 => absurd c67 (by decide))
        refine v_iconst (v := (-1)) C dX8_meetings_40 (by decide) ?_
        exact v_ret C dX8_meetings_41 rfl rfl ⟨(ti_any (-1)), hJ4⟩

