section VR
variable {X : Mx} {l : Launch} {G : Gl} {A : Nat → Prop} {own : String} {cc : ByteArray} {nL : Nat} {ret : Option FieldType} {R : Room} {Q : State → Prop} {n : Nat} {ad : Nat → Nat} {ce sl : Nat} {E : Nat → va_E} {pc : Nat} {lv lv' : List (Nat × Value)} {st : List Value}
theorem v_gnY (C : Cx X l G A own cc nL ret R) {index : Nat} {host : String} (hd : decode cc pc = .ok (.getstatic index, 3)) (hw : (own, index, "OddHours", "MOST_Y", "[I", host) ∈ nwF) (k : V X G A nL Q n ad ce sl E (pc + 3) lv (.ref (G.2.2 0) :: st)) : V X G A nL Q n ad ce sl E pc lv st := fun H locs ls hP hD hS hl => va_getsN C.1 C.2.1 C.2.2.2.2.2.2.2.1.1.1 hS C.2.2.2.1 (va_Nw.use rfl (C.2.2.2.2.2.2.2.1.2.2.2.2.2 _ hw)) (fun _ h => h) hd (k H locs ls hP hD hS hl)
theorem v_gnX (C : Cx X l G A own cc nL ret R) {index : Nat} {host : String} (hd : decode cc pc = .ok (.getstatic index, 3)) (hw : (own, index, "OddHours", "MOST_X", "[I", host) ∈ nwF) (k : V X G A nL Q n ad ce sl E (pc + 3) lv (.ref (G.2.2 1) :: st)) : V X G A nL Q n ad ce sl E pc lv st := fun H locs ls hP hD hS hl => va_getsN C.1 C.2.1 C.2.2.2.2.2.2.2.1.2.1.1 hS C.2.2.2.1 (va_Nw.use rfl (C.2.2.2.2.2.2.2.1.2.2.2.2.2 _ hw)) (fun _ h => h) hd (k H locs ls hP hD hS hl)
end VR
set_option maxRecDepth 20000 in
theorem t_J9_abs_0f7a4 (l : Launch) (G : Gl) (ad : Nat → Nat) {k : Nat} {E0 E : Nat → va_E} (hJ : J8 G ad k E0 E) (x : Int32) : CtI l G yJ9_abs_0f7a4 cJ9_abs_0f7a4 1 .int 0 0 (98 + 9 * k) ad E [.int x] (fun r E' => ((-2147483648 : Int) ≤ r.toInt ∧ r.toInt ≤ 2147483647) ∧ E = E') := by
  refine CtI.ofF (by decide +kernel) (Nat.le_of_ble_eq_true rfl) (fun X A C => ?_)
  refine v_sub (lv' := [(0, .int x)]) [0] rfl ?_
  have hk5 := hJ.1
  refine v_iload_n C 0 dJ9_abs_0f7a4_0 rfl rfl ?_
  refine b_if_ge C 9 dJ9_abs_0f7a4_1 (by decide) (rfl : Int32.toInt x = _) (fun c1 => ?_) (fun c1 => ?_)
  · refine v_iload_n C 0 dJ9_abs_0f7a4_9 rfl rfl ?_
    exact v_ret C dJ9_abs_0f7a4_10 rfl rfl ⟨(ti_any x), rfl⟩
  · refine v_iload_n C 0 dJ9_abs_0f7a4_4 rfl rfl ?_
    refine v_ineg C dJ9_abs_0f7a4_5 ?_
    refine v_top (fun x2 _ => ?_)
    refine v_goto C 10 dJ9_abs_0f7a4_6 (by decide) ?_
    exact v_ret C dJ9_abs_0f7a4_10 rfl rfl ⟨(ti_any x2), rfl⟩

set_option maxRecDepth 20000 in
theorem t_X3_addEdit (l : Launch) (G : Gl) (ad : Nat → Nat) {k : Nat} {E0 E : Nat → va_E} (hJ : J8 G ad k E0 E) (i : Int32) (hi : (0 : Int) ≤ i.toInt ∧ i.toInt ≤ 9) (x : Int32) (y : Int32) (z : Int32) : CtV l G yX3_addEdit cX3_addEdit 5 0 0 (98 + 9 * k) ad E [.ref (ad 51), .int i, .int x, .int y, .int z] (fun E' => J8 G ad k E0 E') := by
  refine CtV.of (by decide) (Nat.le_of_ble_eq_true rfl) (fun X A C => ?_)
  refine v_sub (lv' := [(0, .ref (ad 51)), (1, .int i), (2, .int x), (3, .int y), (4, .int z)]) [0, 1, 2, 3, 4] rfl ?_
  have hk5 := hJ.1
  refine v_aload_n C 0 dX3_addEdit_0 rfl rfl ?_
  obtain ⟨i1, hE1, hb1⟩ := hJ.2.2.getO (b := 51) (by omega) rfl
  refine v_geti (v := i1 8) C 51 dX3_addEdit_1 fX3_72 (by omega) hE1 rfl rfl ?_
  have hi1_8 : (0 : Int) ≤ (i1 8).toInt ∧ (i1 8).toInt ≤ 50 := hb1 8
  refine v_bipush (v := 50) C dX3_addEdit_4 (by decide) ?_
  refine b_icmp_ge C 60 dX3_addEdit_6 (by decide) (rfl : Int32.toInt (i1 8) = _) (show (50 : Int32).toInt = 50 by decide) (fun c2 => ?_) (fun c2 => ?_)
  · exact v_vret C dX3_addEdit_60 rfl hJ
  · refine v_aload_n C 0 dX3_addEdit_9 rfl rfl ?_
    refine v_getr C 51 dX3_addEdit_10 fX3_21 (by omega) hE1 rfl rfl ?_
    refine v_aload_n C 0 dX3_addEdit_13 rfl rfl ?_
    refine v_geti (v := i1 8) C 51 dX3_addEdit_14 fX3_72 (by omega) hE1 rfl rfl ?_
    refine v_iload_n C 1 dX3_addEdit_17 rfl rfl ?_
    obtain ⟨f3, hE3, hb3⟩ := hJ.2.2.getA (b := 64) (by omega) rfl
    refine v_ast C 64 dX3_addEdit_18 (by omega) hE3 (ti_in (rfl : Int32.toInt (i1 8) = _) (by omega) (by omega)) (fun E4 hE4_64 oE4 => ?_)
    rw [ti_cl (rfl : Int32.toInt (i1 8) = _)] at hE4_64
    have hE4_51 := (oE4 51 (by decide)).trans hE1
    have hJ5 := hJ.with (hJ.2.2.setA rfl (by unfold P8; omega) hb3 (show (0 : Int) ≤ Int32.toInt i ∧ Int32.toInt i ≤ 9 by omega) hE4_64 oE4)
    refine v_aload_n C 0 dX3_addEdit_19 rfl rfl ?_
    refine v_getr C 51 dX3_addEdit_20 fX3_25 (by omega) hE4_51 rfl rfl ?_
    refine v_aload_n C 0 dX3_addEdit_23 rfl rfl ?_
    refine v_geti (v := i1 8) C 51 dX3_addEdit_24 fX3_72 (by omega) hE4_51 rfl rfl ?_
    refine v_iload_n C 2 dX3_addEdit_27 rfl rfl ?_
    obtain ⟨f6, hE6, hb6⟩ := hJ5.2.2.getA (b := 65) (by omega) rfl
    refine v_ast C 65 dX3_addEdit_28 (by omega) hE6 (ti_in (rfl : Int32.toInt (i1 8) = _) (by omega) (by omega)) (fun E7 hE7_65 oE7 => ?_)
    rw [ti_cl (rfl : Int32.toInt (i1 8) = _)] at hE7_65
    have hE7_51 := (oE7 51 (by decide)).trans hE4_51
    have hJ8 := hJ5.with (hJ5.2.2.setA rfl (by unfold P8; omega) hb6 (ti_any x) hE7_65 oE7)
    refine v_aload_n C 0 dX3_addEdit_29 rfl rfl ?_
    refine v_getr C 51 dX3_addEdit_30 fX3_28 (by omega) hE7_51 rfl rfl ?_
    refine v_aload_n C 0 dX3_addEdit_33 rfl rfl ?_
    refine v_geti (v := i1 8) C 51 dX3_addEdit_34 fX3_72 (by omega) hE7_51 rfl rfl ?_
    refine v_iload_n C 3 dX3_addEdit_37 rfl rfl ?_
    obtain ⟨f9, hE9, hb9⟩ := hJ8.2.2.getA (b := 66) (by omega) rfl
    refine v_ast C 66 dX3_addEdit_38 (by omega) hE9 (ti_in (rfl : Int32.toInt (i1 8) = _) (by omega) (by omega)) (fun E10 hE10_66 oE10 => ?_)
    rw [ti_cl (rfl : Int32.toInt (i1 8) = _)] at hE10_66
    have hE10_51 := (oE10 51 (by decide)).trans hE7_51
    have hJ11 := hJ8.with (hJ8.2.2.setA rfl (by unfold P8; omega) hb9 (ti_any y) hE10_66 oE10)
    refine v_aload_n C 0 dX3_addEdit_39 rfl rfl ?_
    refine v_getr C 51 dX3_addEdit_40 fX3_31 (by omega) hE10_51 rfl rfl ?_
    refine v_aload_n C 0 dX3_addEdit_43 rfl rfl ?_
    refine v_geti (v := i1 8) C 51 dX3_addEdit_44 fX3_72 (by omega) hE10_51 rfl rfl ?_
    refine v_iload C 4 dX3_addEdit_47 rfl ?_
    obtain ⟨f12, hE12, hb12⟩ := hJ11.2.2.getA (b := 67) (by omega) rfl
    refine v_ast C 67 dX3_addEdit_49 (by omega) hE12 (ti_in (rfl : Int32.toInt (i1 8) = _) (by omega) (by omega)) (fun E13 hE13_67 oE13 => ?_)
    rw [ti_cl (rfl : Int32.toInt (i1 8) = _)] at hE13_67
    have hE13_51 := (oE13 51 (by decide)).trans hE10_51
    have hJ14 := hJ11.with (hJ11.2.2.setA rfl (by unfold P8; omega) hb12 (ti_any z) hE13_67 oE13)
    refine v_aload_n C 0 dX3_addEdit_50 rfl rfl ?_
    refine v_dup C dX3_addEdit_51 rfl ?_
    refine v_geti (v := i1 8) C 51 dX3_addEdit_52 fX3_72 (by omega) hE13_51 rfl rfl ?_
    refine v_iconst (v := 1) C dX3_addEdit_55 (by decide) ?_
    refine v_iadd C dX3_addEdit_56 ?_
    refine v_top (fun x15 ex15 => ?_)
    have hx15 : x15.toInt = ((i1 8).toInt + 1) := by rw [ex15]; exact ti_add (rfl : Int32.toInt (i1 8) = _) (show (1 : Int32).toInt = 1 by decide) (by omega) (by omega)
    refine v_puti C 51 dX3_addEdit_57 fX3_72 (by omega) hE13_51 rfl rfl rfl rfl (fun E16 hE16_51 oE16 => ?_)
    obtain ⟨hJ17, hb18⟩ := hJ14.2.2.setO rfl (by unfold P8; omega) hb1 (k := 8) (show (0 : Int) ≤ Int32.toInt x15 ∧ Int32.toInt x15 ≤ 50 by have := hx15; omega) hE16_51 oE16
    have hJ17 := hJ14.with hJ17
    exact v_vret C dX3_addEdit_60 rfl hJ17

set_option maxRecDepth 20000 in
theorem t_X3_addZones (l : Launch) (G : Gl) (ad : Nat → Nat) {k : Nat} {E0 E : Nat → va_E} (hJ : J8 G ad k E0 E) (i : Int32) (hi : (0 : Int) ≤ i.toInt ∧ i.toInt ≤ 9) (x : Int32) (y : Int32) (z : Int32) : CtV l G yX3_addZones cX3_addZones 6 1 24 (98 + 9 * k) ad E [.ref (ad 51), .int i, .int x, .int y, .int z] (fun E' => J8 G ad k E0 E') := by
  refine CtV.of (by decide) (Nat.le_of_ble_eq_true rfl) (fun X A C => ?_)
  refine v_sub (lv' := [(0, .ref (ad 51)), (1, .int i), (2, .int x), (3, .int y), (4, .int z)]) [0, 1, 2, 3, 4] rfl ?_
  have hk5 := hJ.1
  refine v_iconst (v := 0) C dX3_addZones_0 (by decide) ?_
  refine v_istore (lv' := [(0, .ref (ad 51)), (1, .int i), (2, .int x), (3, .int y), (4, .int z), (5, .int 0)]) C [1, 2, 3, 4, 5, 0] dX3_addZones_1 (by decide) rfl ?_
  have LP1 : ∀ (t : Nat) (E4 : Nat → va_E) (y2 : Int32), J8 G ad k E0 E4 → ((0 : Int) ≤ y2.toInt ∧ y2.toInt ≤ 5) → (y2.toInt ≤ (k : Int)) → 6 - y2.toInt < (t : Int) → V X G A 6 (QV X G A (98 + 9 * k) ad (fun E' => J8 G ad k E0 E')) (98 + 9 * k) ad 0 0 E4 3 [(0, .ref (ad 51)), (1, .int i), (2, .int x), (3, .int y), (4, .int z), (5, .int y2)] [] := by
    intro t8
    induction t8 with
    | zero => intro E4 y2 hJ5 hy2 hq3 hm7; exfalso; omega
    | succ t8 ih6 =>
      intro E4 y2 hJ5 hy2 hq3 hm7
      refine v_iload C 5 dX3_addZones_3 rfl ?_
      refine v_aload_n C 0 dX3_addZones_5 rfl rfl ?_
      obtain ⟨i9, hE9, hb9⟩ := hJ5.2.2.getO (b := 51) (by omega) rfl
      refine v_getr C 51 dX3_addZones_6 fX3_34 (by omega) hE9 rfl rfl ?_
      obtain ⟨i10, hE10, hb10⟩ := hJ5.2.2.getO (b := 6) (by omega) rfl
      refine v_geti (v := i10 1) C 6 dX3_addZones_9 fX3_120 (by omega) hE10 rfl rfl ?_
      have hi10_1 : (k : Int) ≤ (i10 1).toInt ∧ (i10 1).toInt ≤ (k : Int) := hb10 1
      refine b_icmp_ge C 37 dX3_addZones_12 (by decide) (rfl : Int32.toInt y2 = _) (rfl : Int32.toInt (i10 1) = _) (fun c11 => ?_) (fun c11 => ?_)
      · exact v_vret C dX3_addZones_37 rfl hJ5
      · refine v_iload C 5 dX3_addZones_15 rfl ?_
        refine v_iload_n C 3 dX3_addZones_17 rfl rfl ?_
        refine b_icmp_eq C 31 dX3_addZones_18 (by decide) (rfl : Int32.toInt y2 = _) (rfl : Int32.toInt y = _) (fun c12 => ?_) (fun c12 => ?_)
        · obtain ⟨x13, ex13⟩ : ∃ y : Int32, y = y2 + 1 := ⟨_, rfl⟩
          have hx13 : x13.toInt = (y2.toInt + 1) := by rw [ex13]; exact ti_add (rfl : Int32.toInt y2 = _) (show (1 : Int32).toInt = 1 by decide) (by omega) (by omega)
          refine v_iinc (v := x13) (lv' := [(0, .ref (ad 51)), (1, .int i), (2, .int x), (3, .int y), (4, .int z), (5, .int x13)]) C 5 [1, 2, 3, 4, 5, 0] dX3_addZones_31 rfl (ex13.symm) (by decide) rfl ?_
          refine v_goto C 3 dX3_addZones_34 (by decide) ?_
          exact ih6 _ x13 hJ5 (by have := hx13; omega) (by have := hx13; omega) (by have := hx13; omega)
        · refine v_aload_n C 0 dX3_addZones_21 rfl rfl ?_
          refine v_iload_n C 1 dX3_addZones_22 rfl rfl ?_
          refine v_iload_n C 2 dX3_addZones_23 rfl rfl ?_
          refine v_iload C 5 dX3_addZones_24 rfl ?_
          refine v_iload C 4 dX3_addZones_26 rfl ?_
          refine v_cVv C dX3_addZones_28 lX3_102 mX3_addEdit 51 (by omega) hE9 (by decide) rfl (t_X3_addEdit l G ad hJ5 i (show (0 : Int) ≤ Int32.toInt i ∧ Int32.toInt i ≤ 9 by omega) x y2 z) ⟨by decide, by decide⟩ rfl (Nat.le_of_ble_eq_true rfl) ⟨Nat.zero_le _, Nat.zero_le _⟩ (fun E15 hJ17 => ?_)
          obtain ⟨x18, ex18⟩ : ∃ y : Int32, y = y2 + 1 := ⟨_, rfl⟩
          have hx18 : x18.toInt = (y2.toInt + 1) := by rw [ex18]; exact ti_add (rfl : Int32.toInt y2 = _) (show (1 : Int32).toInt = 1 by decide) (by omega) (by omega)
          refine v_iinc (v := x18) (lv' := [(0, .ref (ad 51)), (1, .int i), (2, .int x), (3, .int y), (4, .int z), (5, .int x18)]) C 5 [1, 2, 3, 4, 5, 0] dX3_addZones_31 rfl (ex18.symm) (by decide) rfl ?_
          refine v_goto C 3 dX3_addZones_34 (by decide) ?_
          exact ih6 _ x18 hJ17 (by have := hx18; omega) (by have := hx18; omega) (by have := hx18; omega)
  exact LP1 100000 _ 0 hJ (by have := (show (0 : Int32).toInt = 0 by decide); omega) (by have := (show (0 : Int32).toInt = 0 by decide); omega) (by have := (show (0 : Int32).toInt = 0 by decide); omega)

set_option maxRecDepth 20000 in
theorem t_X3_addEndings (l : Launch) (G : Gl) (ad : Nat → Nat) {k : Nat} {E0 E : Nat → va_E} (hJ : J8 G ad k E0 E) (i : Int32) (hi : (0 : Int) ≤ i.toInt ∧ i.toInt ≤ 9) (x : Int32) (y : Int32) : CtV l G yX3_addEndings cX3_addEndings 5 1 24 (98 + 9 * k) ad E [.ref (ad 51), .int i, .int x, .int y] (fun E' => J8 G ad k E0 E') := by
  refine CtV.of (by decide) (Nat.le_of_ble_eq_true rfl) (fun X A C => ?_)
  refine v_sub (lv' := [(0, .ref (ad 51)), (1, .int i), (2, .int x), (3, .int y)]) [0, 1, 2, 3] rfl ?_
  have hk5 := hJ.1
  refine v_iconst (v := 0) C dX3_addEndings_0 (by decide) ?_
  refine v_istore (lv' := [(0, .ref (ad 51)), (1, .int i), (2, .int x), (3, .int y), (4, .int 0)]) C [1, 2, 3, 4, 0] dX3_addEndings_1 (by decide) rfl ?_
  have LP1 : ∀ (t : Nat) (E3 : Nat → va_E) (y2 : Int32), J8 G ad k E0 E3 → ((0 : Int) ≤ y2.toInt ∧ y2.toInt ≤ 3) → 4 - y2.toInt < (t : Int) → V X G A 5 (QV X G A (98 + 9 * k) ad (fun E' => J8 G ad k E0 E')) (98 + 9 * k) ad 0 0 E3 3 [(0, .ref (ad 51)), (1, .int i), (2, .int x), (3, .int y), (4, .int y2)] [] := by
    intro t7
    induction t7 with
    | zero => intro E3 y2 hJ4 hy2 hm6; exfalso; omega
    | succ t7 ih5 =>
      intro E3 y2 hJ4 hy2 hm6
      refine v_iload C 4 dX3_addEndings_3 rfl ?_
      refine v_gnY C dX3_addEndings_5 (List.mem_of_getElem? (i := 1) rfl) ?_
      refine v_bipush (v := 7) C dX3_addEndings_8 (by decide) ?_
      refine v_lstY (v := 2) C dX3_addEndings_10 (ti_in (show (7 : Int32).toInt = 7 by decide) (by omega) (by omega)) (by decide) ?_
      refine b_icmp_gt C 36 dX3_addEndings_11 (by decide) (rfl : Int32.toInt y2 = _) (show (2 : Int32).toInt = 2 by decide) (fun c8 => ?_) (fun c8 => ?_)
      · exact v_vret C dX3_addEndings_36 rfl hJ4
      · refine v_iload C 4 dX3_addEndings_14 rfl ?_
        refine v_iload_n C 3 dX3_addEndings_16 rfl rfl ?_
        refine b_icmp_eq C 30 dX3_addEndings_17 (by decide) (rfl : Int32.toInt y2 = _) (rfl : Int32.toInt y = _) (fun c9 => ?_) (fun c9 => ?_)
        · obtain ⟨x10, ex10⟩ : ∃ y : Int32, y = y2 + 1 := ⟨_, rfl⟩
          have hx10 : x10.toInt = (y2.toInt + 1) := by rw [ex10]; exact ti_add (rfl : Int32.toInt y2 = _) (show (1 : Int32).toInt = 1 by decide) (by omega) (by omega)
          refine v_iinc (v := x10) (lv' := [(0, .ref (ad 51)), (1, .int i), (2, .int x), (3, .int y), (4, .int x10)]) C 4 [1, 2, 3, 4, 0] dX3_addEndings_30 rfl (ex10.symm) (by decide) rfl ?_
          refine v_goto C 3 dX3_addEndings_33 (by decide) ?_
          exact ih5 _ x10 hJ4 (by have := hx10; omega) (by have := hx10; omega)
        · refine v_aload_n C 0 dX3_addEndings_20 rfl rfl ?_
          refine v_iload_n C 1 dX3_addEndings_21 rfl rfl ?_
          refine v_bipush (v := 7) C dX3_addEndings_22 (by decide) ?_
          refine v_iload_n C 2 dX3_addEndings_24 rfl rfl ?_
          refine v_iload C 4 dX3_addEndings_25 rfl ?_
          obtain ⟨i15, hE15, hb15⟩ := hJ4.2.2.getO (b := 51) (by omega) rfl
          refine v_cVv C dX3_addEndings_27 lX3_102 mX3_addEdit 51 (by omega) hE15 (by decide) rfl (t_X3_addEdit l G ad hJ4 i (show (0 : Int) ≤ Int32.toInt i ∧ Int32.toInt i ≤ 9 by omega) 7 x y2) ⟨by decide, by decide⟩ rfl (Nat.le_of_ble_eq_true rfl) ⟨Nat.zero_le _, Nat.zero_le _⟩ (fun E12 hJ14 => ?_)
          obtain ⟨x16, ex16⟩ : ∃ y : Int32, y = y2 + 1 := ⟨_, rfl⟩
          have hx16 : x16.toInt = (y2.toInt + 1) := by rw [ex16]; exact ti_add (rfl : Int32.toInt y2 = _) (show (1 : Int32).toInt = 1 by decide) (by omega) (by omega)
          refine v_iinc (v := x16) (lv' := [(0, .ref (ad 51)), (1, .int i), (2, .int x), (3, .int y), (4, .int x16)]) C 4 [1, 2, 3, 4, 0] dX3_addEndings_30 rfl (ex16.symm) (by decide) rfl ?_
          refine v_goto C 3 dX3_addEndings_33 (by decide) ?_
          exact ih5 _ x16 hJ14 (by have := hx16; omega) (by have := hx16; omega)
  exact LP1 100000 _ 0 hJ (by have := (show (0 : Int32).toInt = 0 by decide); omega) (by have := (show (0 : Int32).toInt = 0 by decide); omega)

set_option maxRecDepth 20000 in
theorem t_X3_listEdits (l : Launch) (G : Gl) (ad : Nat → Nat) {k : Nat} {E0 E : Nat → va_E} (hJ : J8 G ad k E0 E) (c : Nat) (hc : PC c) (hcl : c < 45) : CtV l G yX3_listEdits cX3_listEdits 5 2 49 (98 + 9 * k) ad E [.ref (ad 51), .ref (ad c)] (fun E' => J8 G ad k E0 E') := by
  refine CtV.of (by decide) (Nat.le_of_ble_eq_true rfl) (fun X A C => ?_)
  refine v_sub (lv' := [(0, .ref (ad 51)), (1, .ref (ad c))]) [0, 1] rfl ?_
  have hk5 := hJ.1
  have hcn := hc.n
  refine v_aload_n C 0 dX3_listEdits_0 rfl rfl ?_
  refine v_iconst (v := 0) C dX3_listEdits_1 (by decide) ?_
  obtain ⟨i1, hE1, hb1⟩ := hJ.2.2.getO (b := 51) (by omega) rfl
  refine v_puti C 51 dX3_listEdits_2 fX3_72 (by omega) hE1 rfl rfl rfl rfl (fun E2 hE2_51 oE2 => ?_)
  obtain ⟨hJ3, hb4⟩ := hJ.2.2.setO rfl (by unfold P8; omega) hb1 (k := 8) (show (0 : Int) ≤ Int32.toInt 0 ∧ Int32.toInt 0 ≤ 50 by decide) hE2_51 oE2
  have hJ3 := hJ.with hJ3
  refine v_iconst (v := 0) C dX3_listEdits_5 (by decide) ?_
  refine v_istore_n (lv' := [(0, .ref (ad 51)), (1, .ref (ad c)), (2, .int 0)]) C [1, 2, 0] dX3_listEdits_6 rfl (by decide) rfl ?_
  have LP5 : ∀ (t : Nat) (E7 : Nat → va_E) (y6 : Int32), J8 G ad k E0 E7 → ((0 : Int) ≤ y6.toInt ∧ y6.toInt ≤ 10) → 11 - y6.toInt < (t : Int) → V X G A 5 (QV X G A (98 + 9 * k) ad (fun E' => J8 G ad k E0 E')) (98 + 9 * k) ad 0 0 E7 7 [(0, .ref (ad 51)), (1, .ref (ad c)), (2, .int y6)] [] := by
    intro t11
    induction t11 with
    | zero => intro E7 y6 hJ8 hy6 hm10; exfalso; omega
    | succ t11 ih9 =>
      intro E7 y6 hJ8 hy6 hm10
      refine v_iload_n C 2 dX3_listEdits_7 rfl rfl ?_
      refine v_aload_n C 1 dX3_listEdits_8 rfl rfl ?_
      obtain ⟨i12, hE12, hb12⟩ := hJ8.2.2.getO (b := c) (by omega) (hc.t0 k)
      refine v_geti (v := i12 6) C c dX3_listEdits_9 fX3_99 (by omega) hE12 rfl rfl ?_
      have hi12_6 : (0 : Int) ≤ (i12 6).toInt ∧ (i12 6).toInt ≤ 10 := hb12 6
      refine b_icmp_ge C 191 dX3_listEdits_12 (by decide) (rfl : Int32.toInt y6 = _) (rfl : Int32.toInt (i12 6) = _) (fun c13 => ?_) (fun c13 => ?_)
      · exact v_vret C dX3_listEdits_191 rfl hJ8
      · have JN14 : ∀ (E15 : Nat → va_E) , J8 G ad k E0 E15 → V X G A 5 (QV X G A (98 + 9 * k) ad (fun E' => J8 G ad k E0 E')) (98 + 9 * k) ad 0 0 E15 185 [(0, .ref (ad 51)), (1, .ref (ad c)), (2, .int y6)] [] := by
          intro E15  hJ16
          obtain ⟨x17, ex17⟩ : ∃ y : Int32, y = y6 + 1 := ⟨_, rfl⟩
          have hx17 : x17.toInt = (y6.toInt + 1) := by rw [ex17]; exact ti_add (rfl : Int32.toInt y6 = _) (show (1 : Int32).toInt = 1 by decide) (by omega) (by omega)
          refine v_iinc (v := x17) (lv' := [(0, .ref (ad 51)), (1, .ref (ad c)), (2, .int x17)]) C 2 [1, 2, 0] dX3_listEdits_185 rfl (ex17.symm) (by decide) rfl ?_
          refine v_goto C 7 dX3_listEdits_188 (by decide) ?_
          exact ih9 _ x17 hJ16 (by have := hx17; omega) (by have := hx17; omega)
        refine v_aload_n C 1 dX3_listEdits_15 rfl rfl ?_
        refine v_getr C c dX3_listEdits_16 fX3_93 (by omega) hE12 rfl rfl ?_
        refine v_iload_n C 2 dX3_listEdits_19 rfl rfl ?_
        obtain ⟨f18, hE18, hb18⟩ := hJ8.2.2.getA (b := (c + 2)) (by omega) (hc.t2 k)
        refine v_ald (v := f18 (y6.toInt).toNat) C (c + 2) dX3_listEdits_20 (by omega) hE18 (ti_in (rfl : Int32.toInt y6 = _) (by omega) (by omega)) (by rw [ti_cl (rfl : Int32.toInt y6 = _)]) ?_
        refine v_top (fun x19 _ => ?_)
        refine v_istore_n (lv' := [(0, .ref (ad 51)), (1, .ref (ad c)), (2, .int y6), (3, .int x19)]) C [1, 2, 3, 0] dX3_listEdits_21 rfl (by decide) rfl ?_
        refine v_aload_n C 1 dX3_listEdits_22 rfl rfl ?_
        refine v_getr C c dX3_listEdits_23 fX3_96 (by omega) hE12 rfl rfl ?_
        refine v_iload_n C 2 dX3_listEdits_26 rfl rfl ?_
        obtain ⟨f20, hE20, hb20⟩ := hJ8.2.2.getA (b := (c + 3)) (by omega) (hc.t3 k)
        refine v_ald (v := f20 (y6.toInt).toNat) C (c + 3) dX3_listEdits_27 (by omega) hE20 (ti_in (rfl : Int32.toInt y6 = _) (by omega) (by omega)) (by rw [ti_cl (rfl : Int32.toInt y6 = _)]) ?_
        refine v_top (fun x21 _ => ?_)
        refine v_istore (lv' := [(0, .ref (ad 51)), (1, .ref (ad c)), (2, .int y6), (3, .int x19), (4, .int x21)]) C [1, 2, 3, 4, 0] dX3_listEdits_28 (by decide) rfl ?_
        refine v_aload_n C 1 dX3_listEdits_30 rfl rfl ?_
        refine v_getr C c dX3_listEdits_31 fX3_90 (by omega) hE12 rfl rfl ?_
        refine v_iload_n C 2 dX3_listEdits_34 rfl rfl ?_
        obtain ⟨f22, hE22, hb22⟩ := hJ8.2.2.getA (b := (c + 1)) (by omega) (hc.t1 k)
        refine v_ald (v := f22 (y6.toInt).toNat) C (c + 1) dX3_listEdits_35 (by omega) hE22 (ti_in (rfl : Int32.toInt y6 = _) (by omega) (by omega)) (by rw [ti_cl (rfl : Int32.toInt y6 = _)]) ?_
        refine v_top (fun x23 _ => ?_)
        have q24v : Int32.toInt x23 = x23.toInt := (rfl : Int32.toInt x23 = _)
        rcases (show x23.toInt = 1 ∨ x23.toInt = 2 ∨ x23.toInt = 3 ∨ x23.toInt = 4 ∨ x23.toInt = 5 ∨ x23.toInt = 6 ∨ x23.toInt = 7 ∨ (x23.toInt < 1 ∨ 7 < x23.toInt) by omega) with q24 | q24 | q24 | q24 | q24 | q24 | q24 | q24
        · refine v_tableIn (off := 67) C 103 dX3_listEdits_36 (by omega) (by omega) (by rw [q24v, q24]; rfl) (by decide) ?_
          refine v_aload_n C 0 dX3_listEdits_103 rfl rfl ?_
          refine v_iload_n C 2 dX3_listEdits_104 rfl rfl ?_
          refine v_iconst (v := 1) C dX3_listEdits_105 (by decide) ?_
          refine v_iload_n C 3 dX3_listEdits_106 rfl rfl ?_
          refine v_iload C 4 dX3_listEdits_107 rfl ?_
          obtain ⟨i29, hE29, hb29⟩ := hJ8.2.2.getO (b := 51) (by omega) rfl
          refine v_cVv C dX3_listEdits_109 lX3_105 mX3_addZones 51 (by omega) hE29 (by decide) rfl (t_X3_addZones l G ad hJ8 y6 (show (0 : Int) ≤ Int32.toInt y6 ∧ Int32.toInt y6 ≤ 9 by omega) 1 x19 x21) ⟨by decide, by decide⟩ rfl (Nat.le_of_ble_eq_true rfl) ⟨Nat.zero_le _, Nat.zero_le _⟩ (fun E26 hJ28 => ?_)
          refine v_goto C 185 dX3_listEdits_112 (by decide) ?_
          refine v_sub (lv' := [(0, .ref (ad 51)), (1, .ref (ad c)), (2, .int y6)]) [0, 1, 2] rfl ?_
          exact JN14 _ hJ28 
        · refine v_tableIn (off := 149) C 185 dX3_listEdits_36 (by omega) (by omega) (by rw [q24v, q24]; rfl) (by decide) ?_
          refine v_sub (lv' := [(0, .ref (ad 51)), (1, .ref (ad c)), (2, .int y6)]) [0, 1, 2] rfl ?_
          exact JN14 _ hJ8 
        · refine v_tableIn (off := 149) C 185 dX3_listEdits_36 (by omega) (by omega) (by rw [q24v, q24]; rfl) (by decide) ?_
          refine v_sub (lv' := [(0, .ref (ad 51)), (1, .ref (ad c)), (2, .int y6)]) [0, 1, 2] rfl ?_
          exact JN14 _ hJ8 
        · refine v_tableIn (off := 44) C 80 dX3_listEdits_36 (by omega) (by omega) (by rw [q24v, q24]; rfl) (by decide) ?_
          refine v_aload_n C 0 dX3_listEdits_80 rfl rfl ?_
          refine v_iload_n C 2 dX3_listEdits_81 rfl rfl ?_
          refine v_iconst (v := 4) C dX3_listEdits_82 (by decide) ?_
          refine v_iload_n C 3 dX3_listEdits_83 rfl rfl ?_
          refine v_iconst (v := 1) C dX3_listEdits_84 (by decide) ?_
          refine v_iload C 4 dX3_listEdits_85 rfl ?_
          refine v_isub C dX3_listEdits_87 ?_
          refine v_top (fun x30 _ => ?_)
          obtain ⟨i35, hE35, hb35⟩ := hJ8.2.2.getO (b := 51) (by omega) rfl
          refine v_cVv C dX3_listEdits_88 lX3_102 mX3_addEdit 51 (by omega) hE35 (by decide) rfl (t_X3_addEdit l G ad hJ8 y6 (show (0 : Int) ≤ Int32.toInt y6 ∧ Int32.toInt y6 ≤ 9 by omega) 4 x19 x30) ⟨by decide, by decide⟩ rfl (Nat.le_of_ble_eq_true rfl) ⟨Nat.zero_le _, Nat.zero_le _⟩ (fun E32 hJ34 => ?_)
          refine v_aload_n C 0 dX3_listEdits_91 rfl rfl ?_
          refine v_iload_n C 2 dX3_listEdits_92 rfl rfl ?_
          refine v_iconst (v := 4) C dX3_listEdits_93 (by decide) ?_
          refine v_iload_n C 3 dX3_listEdits_94 rfl rfl ?_
          refine v_iload C 4 dX3_listEdits_95 rfl ?_
          obtain ⟨i40, hE40, hb40⟩ := hJ34.2.2.getO (b := 51) (by omega) rfl
          refine v_cVv C dX3_listEdits_97 lX3_105 mX3_addZones 51 (by omega) hE40 (by decide) rfl (t_X3_addZones l G ad hJ34 y6 (show (0 : Int) ≤ Int32.toInt y6 ∧ Int32.toInt y6 ≤ 9 by omega) 4 x19 x21) ⟨by decide, by decide⟩ rfl (Nat.le_of_ble_eq_true rfl) ⟨Nat.zero_le _, Nat.zero_le _⟩ (fun E37 hJ39 => ?_)
          refine v_goto C 185 dX3_listEdits_100 (by decide) ?_
          refine v_sub (lv' := [(0, .ref (ad 51)), (1, .ref (ad c)), (2, .int y6)]) [0, 1, 2] rfl ?_
          exact JN14 _ hJ39 
        · refine v_tableIn (off := 79) C 115 dX3_listEdits_36 (by omega) (by omega) (by rw [q24v, q24]; rfl) (by decide) ?_
          refine v_iload_n C 3 dX3_listEdits_115 rfl rfl ?_
          refine b_if_eq C 185 dX3_listEdits_116 (by decide) (rfl : Int32.toInt x19 = _) (fun c41 => ?_) (fun c41 => ?_)
          · refine v_sub (lv' := [(0, .ref (ad 51)), (1, .ref (ad c)), (2, .int y6)]) [0, 1, 2] rfl ?_
            exact JN14 _ hJ8 
          · refine v_iload_n C 3 dX3_listEdits_119 rfl rfl ?_
            refine v_sipush (v := 1440) C dX3_listEdits_120 (by decide) ?_
            refine v_irem C dX3_listEdits_123 (by decide) ?_
            refine v_top (fun x42 _ => ?_)
            refine b_if_ne C 185 dX3_listEdits_124 (by decide) (rfl : Int32.toInt x42 = _) (fun c43 => ?_) (fun c43 => ?_)
            · refine v_sub (lv' := [(0, .ref (ad 51)), (1, .ref (ad c)), (2, .int y6)]) [0, 1, 2] rfl ?_
              exact JN14 _ hJ8 
            · refine v_aload_n C 0 dX3_listEdits_127 rfl rfl ?_
              refine v_iload_n C 2 dX3_listEdits_128 rfl rfl ?_
              refine v_bipush (v := 6) C dX3_listEdits_129 (by decide) ?_
              refine v_iload_n C 3 dX3_listEdits_131 rfl rfl ?_
              refine v_sipush (v := 1440) C dX3_listEdits_132 (by decide) ?_
              refine v_idiv C dX3_listEdits_135 (by decide) ?_
              refine v_top (fun x44 ex44 => ?_)
              have hx44 : (-1491308 : Int) ≤ x44.toInt ∧ x44.toInt ≤ 1491308 := by rw [ex44]; exact ti_tdb (show (1440 : Int32).toInt = 1440 by decide) (by decide)
              refine v_iconst (v := 0) C dX3_listEdits_136 (by decide) ?_
              obtain ⟨i49, hE49, hb49⟩ := hJ8.2.2.getO (b := 51) (by omega) rfl
              refine v_cVv C dX3_listEdits_137 lX3_102 mX3_addEdit 51 (by omega) hE49 (by decide) rfl (t_X3_addEdit l G ad hJ8 y6 (show (0 : Int) ≤ Int32.toInt y6 ∧ Int32.toInt y6 ≤ 9 by omega) 6 x44 0) ⟨by decide, by decide⟩ rfl (Nat.le_of_ble_eq_true rfl) ⟨Nat.zero_le _, Nat.zero_le _⟩ (fun E46 hJ48 => ?_)
              refine v_goto C 185 dX3_listEdits_140 (by decide) ?_
              refine v_sub (lv' := [(0, .ref (ad 51)), (1, .ref (ad c)), (2, .int y6)]) [0, 1, 2] rfl ?_
              exact JN14 _ hJ48 
        · refine v_tableIn (off := 107) C 143 dX3_listEdits_36 (by omega) (by omega) (by rw [q24v, q24]; rfl) (by decide) ?_
          refine v_iload_n C 3 dX3_listEdits_143 rfl rfl ?_
          refine v_cSp C dX3_listEdits_144 lX3_108 mJ9_abs_0f7a4 (t_J9_abs_0f7a4 l G ad hJ8 x19) ⟨by decide, by decide⟩ rfl (Nat.le_of_ble_eq_true rfl) ⟨Nat.zero_le _, Nat.zero_le _⟩ (fun r50 hp51 => ?_)
          refine v_sipush (v := 1440) C dX3_listEdits_147 (by decide) ?_
          refine v_imul C dX3_listEdits_150 ?_
          refine v_top (fun x52 _ => ?_)
          refine v_gnX C dX3_listEdits_151 (List.mem_of_getElem? (i := 0) rfl) ?_
          refine v_iconst (v := 5) C dX3_listEdits_154 (by decide) ?_
          refine v_lstX (v := 9999) C dX3_listEdits_155 (ti_in (show (5 : Int32).toInt = 5 by decide) (by omega) (by omega)) (by decide) ?_
          refine b_icmp_gt C 185 dX3_listEdits_156 (by decide) (rfl : Int32.toInt x52 = _) (show (9999 : Int32).toInt = 9999 by decide) (fun c53 => ?_) (fun c53 => ?_)
          · refine v_sub (lv' := [(0, .ref (ad 51)), (1, .ref (ad c)), (2, .int y6)]) [0, 1, 2] rfl ?_
            exact JN14 _ hJ8 
          · refine v_aload_n C 0 dX3_listEdits_159 rfl rfl ?_
            refine v_iload_n C 2 dX3_listEdits_160 rfl rfl ?_
            refine v_iconst (v := 5) C dX3_listEdits_161 (by decide) ?_
            refine v_iload_n C 3 dX3_listEdits_162 rfl rfl ?_
            refine v_sipush (v := 1440) C dX3_listEdits_163 (by decide) ?_
            refine v_imul C dX3_listEdits_166 ?_
            refine v_top (fun x54 _ => ?_)
            refine v_iconst (v := 0) C dX3_listEdits_167 (by decide) ?_
            obtain ⟨i59, hE59, hb59⟩ := hJ8.2.2.getO (b := 51) (by omega) rfl
            refine v_cVv C dX3_listEdits_168 lX3_102 mX3_addEdit 51 (by omega) hE59 (by decide) rfl (t_X3_addEdit l G ad hJ8 y6 (show (0 : Int) ≤ Int32.toInt y6 ∧ Int32.toInt y6 ≤ 9 by omega) 5 x54 0) ⟨by decide, by decide⟩ rfl (Nat.le_of_ble_eq_true rfl) ⟨Nat.zero_le _, Nat.zero_le _⟩ (fun E56 hJ58 => ?_)
            refine v_goto C 185 dX3_listEdits_171 (by decide) ?_
            refine v_sub (lv' := [(0, .ref (ad 51)), (1, .ref (ad c)), (2, .int y6)]) [0, 1, 2] rfl ?_
            exact JN14 _ hJ58 
        · refine v_tableIn (off := 138) C 174 dX3_listEdits_36 (by omega) (by omega) (by rw [q24v, q24]; rfl) (by decide) ?_
          refine v_aload_n C 0 dX3_listEdits_174 rfl rfl ?_
          refine v_iload_n C 2 dX3_listEdits_175 rfl rfl ?_
          refine v_iload_n C 3 dX3_listEdits_176 rfl rfl ?_
          refine v_iload C 4 dX3_listEdits_177 rfl ?_
          obtain ⟨i64, hE64, hb64⟩ := hJ8.2.2.getO (b := 51) (by omega) rfl
          refine v_cVv C dX3_listEdits_179 lX3_116 mX3_addEndings 51 (by omega) hE64 (by decide) rfl (t_X3_addEndings l G ad hJ8 y6 (show (0 : Int) ≤ Int32.toInt y6 ∧ Int32.toInt y6 ≤ 9 by omega) x19 x21) ⟨by decide, by decide⟩ rfl (Nat.le_of_ble_eq_true rfl) ⟨Nat.zero_le _, Nat.zero_le _⟩ (fun E61 hJ63 => ?_)
          refine v_goto C 185 dX3_listEdits_182 (by decide) ?_
          refine v_sub (lv' := [(0, .ref (ad 51)), (1, .ref (ad c)), (2, .int y6)]) [0, 1, 2] rfl ?_
          exact JN14 _ hJ63 
        · refine v_tableOut C 185 dX3_listEdits_36 (by omega) (by decide) ?_
          refine v_sub (lv' := [(0, .ref (ad 51)), (1, .ref (ad c)), (2, .int y6)]) [0, 1, 2] rfl ?_
          exact JN14 _ hJ8 
  exact LP5 100000 _ 0 hJ3 (by have := (show (0 : Int32).toInt = 0 by decide); omega) (by have := (show (0 : Int32).toInt = 0 by decide); omega)

set_option maxRecDepth 20000 in
theorem t_X3_put (l : Launch) (G : Gl) (ad : Nat → Nat) {k : Nat} {E0 E : Nat → va_E} (hJ : J8 G ad k E0 E) (x : Int32) (hx : (0 : Int) ≤ x.toInt ∧ x.toInt ≤ 49) : CtV l G yX3_put cX3_put 2 4 92 (98 + 9 * k) ad E [.ref (ad 51), .int x] (fun E' => J8 G ad k E0 E') := by
  refine CtV.of (by decide) (Nat.le_of_ble_eq_true rfl) (fun X A C => ?_)
  refine v_sub (lv' := [(0, .ref (ad 51)), (1, .int x)]) [0, 1] rfl ?_
  have hk5 := hJ.1
  refine v_aload_n C 0 dX3_put_0 rfl rfl ?_
  obtain ⟨i1, hE1, hb1⟩ := hJ.2.2.getO (b := 51) (by omega) rfl
  refine v_getr C 51 dX3_put_1 fX3_12 (by omega) hE1 rfl rfl ?_
  refine v_aload_n C 0 dX3_put_4 rfl rfl ?_
  refine v_getr C 51 dX3_put_5 fX3_21 (by omega) hE1 rfl rfl ?_
  refine v_iload_n C 1 dX3_put_8 rfl rfl ?_
  obtain ⟨f2, hE2, hb2⟩ := hJ.2.2.getA (b := 64) (by omega) rfl
  refine v_ald (v := f2 (x.toInt).toNat) C 64 dX3_put_9 (by omega) hE2 (ti_in (rfl : Int32.toInt x = _) (by omega) (by omega)) (by rw [ti_cl (rfl : Int32.toInt x = _)]) ?_
  refine v_top (fun x3 ex3 => ?_)
  have hx3 : (0 : Int) ≤ x3.toInt ∧ x3.toInt ≤ 9 := by rw [ex3]; exact hb2 _
  refine v_aload_n C 0 dX3_put_10 rfl rfl ?_
  refine v_getr C 51 dX3_put_11 fX3_25 (by omega) hE1 rfl rfl ?_
  refine v_iload_n C 1 dX3_put_14 rfl rfl ?_
  obtain ⟨f4, hE4, hb4⟩ := hJ.2.2.getA (b := 65) (by omega) rfl
  refine v_ald (v := f4 (x.toInt).toNat) C 65 dX3_put_15 (by omega) hE4 (ti_in (rfl : Int32.toInt x = _) (by omega) (by omega)) (by rw [ti_cl (rfl : Int32.toInt x = _)]) ?_
  refine v_top (fun x5 _ => ?_)
  refine v_aload_n C 0 dX3_put_16 rfl rfl ?_
  refine v_getr C 51 dX3_put_17 fX3_28 (by omega) hE1 rfl rfl ?_
  refine v_iload_n C 1 dX3_put_20 rfl rfl ?_
  obtain ⟨f6, hE6, hb6⟩ := hJ.2.2.getA (b := 66) (by omega) rfl
  refine v_ald (v := f6 (x.toInt).toNat) C 66 dX3_put_21 (by omega) hE6 (ti_in (rfl : Int32.toInt x = _) (by omega) (by omega)) (by rw [ti_cl (rfl : Int32.toInt x = _)]) ?_
  refine v_top (fun x7 _ => ?_)
  refine v_aload_n C 0 dX3_put_22 rfl rfl ?_
  refine v_getr C 51 dX3_put_23 fX3_31 (by omega) hE1 rfl rfl ?_
  refine v_iload_n C 1 dX3_put_26 rfl rfl ?_
  obtain ⟨f8, hE8, hb8⟩ := hJ.2.2.getA (b := 67) (by omega) rfl
  refine v_ald (v := f8 (x.toInt).toNat) C 67 dX3_put_27 (by omega) hE8 (ti_in (rfl : Int32.toInt x = _) (by omega) (by omega)) (by rw [ti_cl (rfl : Int32.toInt x = _)]) ?_
  refine v_top (fun x9 _ => ?_)
  obtain ⟨sz10, hW10, hs10, ht10⟩ := hJ.pg pc52
  obtain ⟨i14, hE14, hb14⟩ := hJ.2.2.getO (b := 52) (by omega) (pc52.t0 k)
  refine v_cVv C dX3_put_28 lX3_86 mX5_replace 52 (by omega) hE14 (by decide) rfl (c_replace l G _ ad _ 52 (by omega) hW10 hs10 ht10 x3 x5 x7 x9) ⟨by decide, by decide⟩ rfl (Nat.le_of_ble_eq_true rfl) ⟨Nat.zero_le _, Nat.zero_le _⟩ (fun E11 hq12 => ?_)
  have hJ13 := hJ.setP (by decide) hq12.1 hs10 ht10 hq12.2
  exact v_vret C dX3_put_31 rfl hJ13

set_option maxRecDepth 20000 in
theorem t_X3_undo (l : Launch) (G : Gl) (ad : Nat → Nat) {k : Nat} {E0 E : Nat → va_E} (hJ : J8 G ad k E0 E) (c : Nat) (hc : PC c) (hcl : c < 45) (x : Int32) (hx : (0 : Int) ≤ x.toInt ∧ x.toInt ≤ 49) : CtV l G yX3_undo cX3_undo 4 4 92 (98 + 9 * k) ad E [.ref (ad 51), .ref (ad c), .int x] (fun E' => J8 G ad k E0 E') := by
  refine CtV.of (by decide) (Nat.le_of_ble_eq_true rfl) (fun X A C => ?_)
  refine v_sub (lv' := [(0, .ref (ad 51)), (1, .ref (ad c)), (2, .int x)]) [0, 1, 2] rfl ?_
  have hk5 := hJ.1
  have hcn := hc.n
  refine v_aload_n C 0 dX3_undo_0 rfl rfl ?_
  obtain ⟨i1, hE1, hb1⟩ := hJ.2.2.getO (b := 51) (by omega) rfl
  refine v_getr C 51 dX3_undo_1 fX3_21 (by omega) hE1 rfl rfl ?_
  refine v_iload_n C 2 dX3_undo_4 rfl rfl ?_
  obtain ⟨f2, hE2, hb2⟩ := hJ.2.2.getA (b := 64) (by omega) rfl
  refine v_ald (v := f2 (x.toInt).toNat) C 64 dX3_undo_5 (by omega) hE2 (ti_in (rfl : Int32.toInt x = _) (by omega) (by omega)) (by rw [ti_cl (rfl : Int32.toInt x = _)]) ?_
  refine v_top (fun x3 ex3 => ?_)
  have hx3 : (0 : Int) ≤ x3.toInt ∧ x3.toInt ≤ 9 := by rw [ex3]; exact hb2 _
  refine v_istore_n (lv' := [(0, .ref (ad 51)), (1, .ref (ad c)), (2, .int x), (3, .int x3)]) C [1, 2, 3, 0] dX3_undo_6 rfl (by decide) rfl ?_
  refine v_aload_n C 0 dX3_undo_7 rfl rfl ?_
  refine v_getr C 51 dX3_undo_8 fX3_12 (by omega) hE1 rfl rfl ?_
  refine v_iload_n C 3 dX3_undo_11 rfl rfl ?_
  refine v_aload_n C 1 dX3_undo_12 rfl rfl ?_
  obtain ⟨i4, hE4, hb4⟩ := hJ.2.2.getO (b := c) (by omega) (hc.t0 k)
  refine v_getr C c dX3_undo_13 fX3_90 (by omega) hE4 rfl rfl ?_
  refine v_iload_n C 3 dX3_undo_16 rfl rfl ?_
  obtain ⟨f5, hE5, hb5⟩ := hJ.2.2.getA (b := (c + 1)) (by omega) (hc.t1 k)
  refine v_ald (v := f5 (x3.toInt).toNat) C (c + 1) dX3_undo_17 (by omega) hE5 (ti_in (rfl : Int32.toInt x3 = _) (by omega) (by omega)) (by rw [ti_cl (rfl : Int32.toInt x3 = _)]) ?_
  refine v_top (fun x6 _ => ?_)
  refine v_aload_n C 1 dX3_undo_18 rfl rfl ?_
  refine v_getr C c dX3_undo_19 fX3_93 (by omega) hE4 rfl rfl ?_
  refine v_iload_n C 3 dX3_undo_22 rfl rfl ?_
  obtain ⟨f7, hE7, hb7⟩ := hJ.2.2.getA (b := (c + 2)) (by omega) (hc.t2 k)
  refine v_ald (v := f7 (x3.toInt).toNat) C (c + 2) dX3_undo_23 (by omega) hE7 (ti_in (rfl : Int32.toInt x3 = _) (by omega) (by omega)) (by rw [ti_cl (rfl : Int32.toInt x3 = _)]) ?_
  refine v_top (fun x8 _ => ?_)
  refine v_aload_n C 1 dX3_undo_24 rfl rfl ?_
  refine v_getr C c dX3_undo_25 fX3_96 (by omega) hE4 rfl rfl ?_
  refine v_iload_n C 3 dX3_undo_28 rfl rfl ?_
  obtain ⟨f9, hE9, hb9⟩ := hJ.2.2.getA (b := (c + 3)) (by omega) (hc.t3 k)
  refine v_ald (v := f9 (x3.toInt).toNat) C (c + 3) dX3_undo_29 (by omega) hE9 (ti_in (rfl : Int32.toInt x3 = _) (by omega) (by omega)) (by rw [ti_cl (rfl : Int32.toInt x3 = _)]) ?_
  refine v_top (fun x10 _ => ?_)
  obtain ⟨sz11, hW11, hs11, ht11⟩ := hJ.pg pc52
  obtain ⟨i15, hE15, hb15⟩ := hJ.2.2.getO (b := 52) (by omega) (pc52.t0 k)
  refine v_cVv C dX3_undo_30 lX3_86 mX5_replace 52 (by omega) hE15 (by decide) rfl (c_replace l G _ ad _ 52 (by omega) hW11 hs11 ht11 x3 x6 x8 x10) ⟨by decide, by decide⟩ rfl (Nat.le_of_ble_eq_true rfl) ⟨Nat.zero_le _, Nat.zero_le _⟩ (fun E12 hq13 => ?_)
  have hJ14 := hJ.setP (by decide) hq13.1 hs11 ht11 hq13.2
  exact v_vret C dX3_undo_33 rfl hJ14

set_option maxRecDepth 20000 in
theorem t_X3_keepTrial (l : Launch) (G : Gl) (ad : Nat → Nat) {k : Nat} {E0 E : Nat → va_E} (hJ : J8 G ad k E0 E) (x : Int32) : CtI l G yX3_keepTrial cX3_keepTrial 2 .int 4 90 (98 + 9 * k) ad E [.ref (ad 51), .int x] (fun r E' => ((-2147483648 : Int) ≤ r.toInt ∧ r.toInt ≤ 2147483647) ∧ J8 G ad k E0 E') := by
  refine CtI.of (by decide) (Nat.le_of_ble_eq_true rfl) (fun X A C => ?_)
  refine v_sub (lv' := [(0, .ref (ad 51)), (1, .int x)]) [0, 1] rfl ?_
  have hk5 := hJ.1
  refine v_aload_n C 0 dX3_keepTrial_0 rfl rfl ?_
  obtain ⟨i1, hE1, hb1⟩ := hJ.2.2.getO (b := 51) (by omega) rfl
  refine v_getr C 51 dX3_keepTrial_1 fX3_18 (by omega) hE1 rfl rfl ?_
  refine v_aload_n C 0 dX3_keepTrial_4 rfl rfl ?_
  refine v_getr C 51 dX3_keepTrial_5 fX3_12 (by omega) hE1 rfl rfl ?_
  obtain ⟨sz2, hW2, hs2, ht2⟩ := hJ.pg pc58
  obtain ⟨sz6, hW6, hs6, ht6⟩ := hJ.pg pc52
  obtain ⟨i7, hE7, hb7⟩ := hJ.2.2.getO (b := 58) (by omega) (pc58.t0 k)
  refine v_cVv C dX3_keepTrial_8 lX3_57 mX5_copyFrom 58 (by omega) hE7 (by decide) rfl (c_copyFrom l G _ ad _ 58 52 (by omega) (by omega) (by omega) hW2 hW6 hs6 ht6) ⟨by decide, by decide⟩ rfl (Nat.le_of_ble_eq_true rfl) ⟨Nat.zero_le _, Nat.zero_le _⟩ (fun E3 hq4 => ?_)
  have hJ5 := hJ.setP (by decide) hq4.1 hs6 ht6 hq4.2
  refine v_iload_n C 1 dX3_keepTrial_11 rfl rfl ?_
  exact v_ret C dX3_keepTrial_12 rfl rfl ⟨(ti_any x), hJ5⟩

set_option maxRecDepth 20000 in
theorem t_X3_search (l : Launch) (G : Gl) (ad : Nat → Nat) {k : Nat} {E0 E : Nat → va_E} (hJ : J8 G ad k E0 E) (c : Nat) (hc : PC c) (hcl : c < 45) : CtI l G yX3_search cX3_search 4 .int 6 147 (98 + 9 * k) ad E [.ref (ad 51), .ref (ad c)] (fun r E' => ((-2147483648 : Int) ≤ r.toInt ∧ r.toInt ≤ 2147483647) ∧ J8 G ad k E0 E') := by
  refine CtI.of (by decide) (Nat.le_of_ble_eq_true rfl) (fun X A C => ?_)
  refine v_sub (lv' := [(0, .ref (ad 51)), (1, .ref (ad c))]) [0, 1] rfl ?_
  have hk5 := hJ.1
  have hcn := hc.n
  refine v_aload_n C 0 dX3_search_0 rfl rfl ?_
  obtain ⟨i1, hE1, hb1⟩ := hJ.2.2.getO (b := 51) (by omega) rfl
  refine v_getr C 51 dX3_search_1 fX3_38 (by omega) hE1 rfl rfl ?_
  refine v_aload_n C 0 dX3_search_4 rfl rfl ?_
  refine v_getr C 51 dX3_search_5 fX3_38 (by omega) hE1 rfl rfl ?_
  obtain ⟨i2, hE2, hb2⟩ := hJ.2.2.getO (b := 48) (by omega) rfl
  refine v_getr C 48 dX3_search_8 fX3_42 (by omega) hE2 rfl rfl ?_
  obtain ⟨i3, hE3, hb3⟩ := hJ.2.2.getO (b := 45) (by omega) rfl
  refine v_geti (v := i3 3) C 45 dX3_search_11 fX3_48 (by omega) hE3 rfl rfl ?_
  refine v_puti C 48 dX3_search_14 fX3_54 (by omega) hE2 rfl rfl rfl rfl (fun E4 hE4_48 oE4 => ?_)
  have hE4_51 := (oE4 51 (by decide)).trans hE1
  have hE4_45 := (oE4 45 (by decide)).trans hE3
  obtain ⟨hJ5, hb6⟩ := hJ.2.2.setO rfl (by unfold P8; omega) hb2 (k := 7) (ti_any (i3 3)) hE4_48 oE4
  have hJ5 := hJ.with hJ5
  refine v_aload_n C 0 dX3_search_17 rfl rfl ?_
  refine v_getr C 51 dX3_search_18 fX3_12 (by omega) hE4_51 rfl rfl ?_
  refine v_aload_n C 1 dX3_search_21 rfl rfl ?_
  obtain ⟨sz7, hW7, hs7, ht7⟩ := hJ5.pg pc52
  obtain ⟨sz11, hW11, hs11, ht11⟩ := hJ5.pg hc
  obtain ⟨i12, hE12, hb12⟩ := hJ5.2.2.getO (b := 52) (by omega) (pc52.t0 k)
  refine v_cVv C dX3_search_22 lX3_57 mX5_copyFrom 52 (by omega) hE12 (by decide) rfl (c_copyFrom l G _ ad _ 52 c (by omega) (by omega) (by omega) hW7 hW11 hs11 ht11) ⟨by decide, by decide⟩ rfl (Nat.le_of_ble_eq_true rfl) ⟨Nat.zero_le _, Nat.zero_le _⟩ (fun E8 hq9 => ?_)
  have hJ10 := hJ5.setP (by decide) hq9.1 hs11 ht11 hq9.2
  refine v_aload_n C 0 dX3_search_25 rfl rfl ?_
  refine v_aload_n C 1 dX3_search_26 rfl rfl ?_
  obtain ⟨i17, hE17, hb17⟩ := hJ10.2.2.getO (b := 51) (by omega) rfl
  refine v_cVv C dX3_search_27 lX3_61 mX3_listEdits 51 (by omega) hE17 (by decide) rfl (t_X3_listEdits l G ad hJ10 c hc (by omega)) ⟨by decide, by decide⟩ rfl (Nat.le_of_ble_eq_true rfl) ⟨Nat.zero_le _, Nat.zero_le _⟩ (fun E14 hJ16 => ?_)
  refine v_aload_n C 0 dX3_search_30 rfl rfl ?_
  obtain ⟨i18, hE18, hb18⟩ := hJ16.2.2.getO (b := 51) (by omega) rfl
  refine v_getr C 51 dX3_search_31 fX3_38 (by omega) hE18 rfl rfl ?_
  refine v_aload_n C 0 dX3_search_34 rfl rfl ?_
  refine v_getr C 51 dX3_search_35 fX3_12 (by omega) hE18 rfl rfl ?_
  obtain ⟨i23, hE23, hb23⟩ := hJ16.2.2.getO (b := 48) (by omega) rfl
  refine v_cVi C dX3_search_38 lX3_64 mX1_isRight 48 (by omega) hE23 (by decide) rfl (t_X1_isRight l G ad hJ16 52 pc52) ⟨by decide, by decide⟩ rfl (Nat.le_of_ble_eq_true rfl) ⟨Nat.zero_le _, Nat.zero_le _⟩ (fun r19 E20 hp21 => ?_)
  obtain ⟨hp21, hJ22⟩ := hp21
  rcases hp21 with rfl | rfl
  · refine b_if_eq C 50 dX3_search_41 (by decide) (show (0 : Int32).toInt = 0 by decide) (fun c24 => ?_) (fun c24 => absurd c24 (by decide))
    refine v_iconst (v := 0) C dX3_search_50 (by decide) ?_
    refine v_istore_n (lv' := [(0, .ref (ad 51)), (1, .ref (ad c)), (2, .int 0)]) C [1, 2, 0] dX3_search_51 rfl (by decide) rfl ?_
    have LP25 : ∀ (t : Nat) (E27 : Nat → va_E) (y26 : Int32), J8 G ad k E0 E27 → ((0 : Int) ≤ y26.toInt ∧ y26.toInt ≤ 50) → 51 - y26.toInt < (t : Int) → V X G A 4 (QI X G A (98 + 9 * k) ad (fun r E' => ((-2147483648 : Int) ≤ r.toInt ∧ r.toInt ≤ 2147483647) ∧ J8 G ad k E0 E')) (98 + 9 * k) ad 0 0 E27 52 [(0, .ref (ad 51)), (1, .ref (ad c)), (2, .int y26)] [] := by
      intro t31
      induction t31 with
      | zero => intro E27 y26 hJ28 hy26 hm30; exfalso; omega
      | succ t31 ih29 =>
        intro E27 y26 hJ28 hy26 hm30
        refine v_iload_n C 2 dX3_search_52 rfl rfl ?_
        refine v_aload_n C 0 dX3_search_53 rfl rfl ?_
        obtain ⟨i32, hE32, hb32⟩ := hJ28.2.2.getO (b := 51) (by omega) rfl
        refine v_geti (v := i32 8) C 51 dX3_search_54 fX3_72 (by omega) hE32 rfl rfl ?_
        have hi32_8 : (0 : Int) ≤ (i32 8).toInt ∧ (i32 8).toInt ≤ 50 := hb32 8
        refine b_icmp_ge C 97 dX3_search_57 (by decide) (rfl : Int32.toInt y26 = _) (rfl : Int32.toInt (i32 8) = _) (fun c33 => ?_) (fun c33 => ?_)
        · refine v_iconst (v := 0) C dX3_search_97 (by decide) ?_
          refine v_istore_n (lv' := [(0, .ref (ad 51)), (1, .ref (ad c)), (2, .int 0)]) C [1, 2, 0] dX3_search_98 rfl (by decide) rfl ?_
          have LP34 : ∀ (t : Nat) (E36 : Nat → va_E) (y35 : Int32), J8 G ad k E0 E36 → ((0 : Int) ≤ y35.toInt ∧ y35.toInt ≤ 50) → 51 - y35.toInt < (t : Int) → V X G A 4 (QI X G A (98 + 9 * k) ad (fun r E' => ((-2147483648 : Int) ≤ r.toInt ∧ r.toInt ≤ 2147483647) ∧ J8 G ad k E0 E')) (98 + 9 * k) ad 0 0 E36 99 [(0, .ref (ad 51)), (1, .ref (ad c)), (2, .int y35)] [] := by
            intro t40
            induction t40 with
            | zero => intro E36 y35 hJ37 hy35 hm39; exfalso; omega
            | succ t40 ih38 =>
              intro E36 y35 hJ37 hy35 hm39
              refine v_iload_n C 2 dX3_search_99 rfl rfl ?_
              refine v_aload_n C 0 dX3_search_100 rfl rfl ?_
              obtain ⟨i41, hE41, hb41⟩ := hJ37.2.2.getO (b := 51) (by omega) rfl
              refine v_geti (v := i41 8) C 51 dX3_search_101 fX3_72 (by omega) hE41 rfl rfl ?_
              have hi41_8 : (0 : Int) ≤ (i41 8).toInt ∧ (i41 8).toInt ≤ 50 := hb41 8
              refine b_icmp_ge C 191 dX3_search_104 (by decide) (rfl : Int32.toInt y35 = _) (rfl : Int32.toInt (i41 8) = _) (fun c42 => ?_) (fun c42 => ?_)
              · refine v_aload_n C 0 dX3_search_191 rfl rfl ?_
                refine v_getr C 51 dX3_search_192 fX3_18 (by omega) hE41 rfl rfl ?_
                obtain ⟨sz43, hW43, hs43, ht43⟩ := hJ37.pg pc58
                obtain ⟨i47, hE47, hb47⟩ := hJ37.2.2.getO (b := 58) (by omega) (pc58.t0 k)
                refine v_cVv C dX3_search_195 lX3_83 mX5_empty 58 (by omega) hE47 (by decide) rfl (c_empty l G _ ad _ 58 (by omega) hW43 hs43 ht43) ⟨by decide, by decide⟩ rfl (Nat.le_of_ble_eq_true rfl) ⟨Nat.zero_le _, Nat.zero_le _⟩ (fun E44 hq45 => ?_)
                have hJ46 := hJ37.setP (by decide) hq45.1 (by decide) (by decide) hq45.2
                refine v_iconst (v := (-1)) C dX3_search_198 (by decide) ?_
                exact v_ret C dX3_search_199 rfl rfl ⟨(ti_any (-1)), hJ46⟩
              · refine v_aload_n C 0 dX3_search_107 rfl rfl ?_
                refine v_iload_n C 2 dX3_search_108 rfl rfl ?_
                refine v_cVv C dX3_search_109 lX3_75 mX3_put 51 (by omega) hE41 (by decide) rfl (t_X3_put l G ad hJ37 y35 (show (0 : Int) ≤ Int32.toInt y35 ∧ Int32.toInt y35 ≤ 49 by omega)) ⟨by decide, by decide⟩ rfl (Nat.le_of_ble_eq_true rfl) ⟨Nat.zero_le _, Nat.zero_le _⟩ (fun E49 hJ51 => ?_)
                refine v_iload_n C 2 dX3_search_112 rfl rfl ?_
                refine v_iconst (v := 1) C dX3_search_113 (by decide) ?_
                refine v_iadd C dX3_search_114 ?_
                refine v_top (fun x52 ex52 => ?_)
                have hx52 : x52.toInt = (y35.toInt + 1) := by rw [ex52]; exact ti_add (rfl : Int32.toInt y35 = _) (show (1 : Int32).toInt = 1 by decide) (by omega) (by omega)
                refine v_istore_n (lv' := [(0, .ref (ad 51)), (1, .ref (ad c)), (2, .int y35), (3, .int x52)]) C [1, 2, 3, 0] dX3_search_115 rfl (by decide) rfl ?_
                have LP53 : ∀ (t : Nat) (E55 : Nat → va_E) (y54 : Int32), J8 G ad k E0 E55 → ((0 : Int) ≤ y54.toInt ∧ y54.toInt ≤ 50) → 51 - y54.toInt < (t : Int) → V X G A 4 (QI X G A (98 + 9 * k) ad (fun r E' => ((-2147483648 : Int) ≤ r.toInt ∧ r.toInt ≤ 2147483647) ∧ J8 G ad k E0 E')) (98 + 9 * k) ad 0 0 E55 116 [(0, .ref (ad 51)), (1, .ref (ad c)), (2, .int y35), (3, .int y54)] [] := by
                  intro t59
                  induction t59 with
                  | zero => intro E55 y54 hJ56 hy54 hm58; exfalso; omega
                  | succ t59 ih57 =>
                    intro E55 y54 hJ56 hy54 hm58
                    refine v_iload_n C 3 dX3_search_116 rfl rfl ?_
                    refine v_aload_n C 0 dX3_search_117 rfl rfl ?_
                    obtain ⟨i60, hE60, hb60⟩ := hJ56.2.2.getO (b := 51) (by omega) rfl
                    refine v_geti (v := i60 8) C 51 dX3_search_118 fX3_72 (by omega) hE60 rfl rfl ?_
                    have hi60_8 : (0 : Int) ≤ (i60 8).toInt ∧ (i60 8).toInt ≤ 50 := hb60 8
                    refine b_icmp_ge C 179 dX3_search_121 (by decide) (rfl : Int32.toInt y54 = _) (rfl : Int32.toInt (i60 8) = _) (fun c61 => ?_) (fun c61 => ?_)
                    · refine v_aload_n C 0 dX3_search_179 rfl rfl ?_
                      refine v_aload_n C 1 dX3_search_180 rfl rfl ?_
                      refine v_iload_n C 2 dX3_search_181 rfl rfl ?_
                      refine v_cVv C dX3_search_182 lX3_79 mX3_undo 51 (by omega) hE60 (by decide) rfl (t_X3_undo l G ad hJ56 c hc (by omega) y35 (show (0 : Int) ≤ Int32.toInt y35 ∧ Int32.toInt y35 ≤ 49 by omega)) ⟨by decide, by decide⟩ rfl (Nat.le_of_ble_eq_true rfl) ⟨Nat.zero_le _, Nat.zero_le _⟩ (fun E63 hJ65 => ?_)
                      obtain ⟨x66, ex66⟩ : ∃ y : Int32, y = y35 + 1 := ⟨_, rfl⟩
                      have hx66 : x66.toInt = (y35.toInt + 1) := by rw [ex66]; exact ti_add (rfl : Int32.toInt y35 = _) (show (1 : Int32).toInt = 1 by decide) (by omega) (by omega)
                      refine v_iinc (v := x66) (lv' := [(0, .ref (ad 51)), (1, .ref (ad c)), (2, .int x66), (3, .int y54)]) C 2 [1, 2, 0, 3] dX3_search_185 rfl (ex66.symm) (by decide) rfl ?_
                      refine v_goto C 99 dX3_search_188 (by decide) ?_
                      refine v_sub (lv' := [(0, .ref (ad 51)), (1, .ref (ad c)), (2, .int x66)]) [0, 1, 2] rfl ?_
                      exact ih38 _ x66 hJ65 (by have := hx66; omega) (by have := hx66; omega)
                    · refine v_aload_n C 0 dX3_search_124 rfl rfl ?_
                      refine v_getr C 51 dX3_search_125 fX3_21 (by omega) hE60 rfl rfl ?_
                      refine v_iload_n C 3 dX3_search_128 rfl rfl ?_
                      obtain ⟨f67, hE67, hb67⟩ := hJ56.2.2.getA (b := 64) (by omega) rfl
                      refine v_ald (v := f67 (y54.toInt).toNat) C 64 dX3_search_129 (by omega) hE67 (ti_in (rfl : Int32.toInt y54 = _) (by omega) (by omega)) (by rw [ti_cl (rfl : Int32.toInt y54 = _)]) ?_
                      refine v_top (fun x68 ex68 => ?_)
                      have hx68 : (0 : Int) ≤ x68.toInt ∧ x68.toInt ≤ 9 := by rw [ex68]; exact hb67 _
                      refine v_aload_n C 0 dX3_search_130 rfl rfl ?_
                      refine v_getr C 51 dX3_search_131 fX3_21 (by omega) hE60 rfl rfl ?_
                      refine v_iload_n C 2 dX3_search_134 rfl rfl ?_
                      refine v_ald (v := f67 (y35.toInt).toNat) C 64 dX3_search_135 (by omega) hE67 (ti_in (rfl : Int32.toInt y35 = _) (by omega) (by omega)) (by rw [ti_cl (rfl : Int32.toInt y35 = _)]) ?_
                      refine v_top (fun x69 ex69 => ?_)
                      have hx69 : (0 : Int) ≤ x69.toInt ∧ x69.toInt ≤ 9 := by rw [ex69]; exact hb67 _
                      refine b_icmp_ne C 142 dX3_search_136 (by decide) (rfl : Int32.toInt x68 = _) (rfl : Int32.toInt x69 = _) (fun c70 => ?_) (fun c70 => ?_)
                      · refine v_aload_n C 0 dX3_search_142 rfl rfl ?_
                        refine v_iload_n C 3 dX3_search_143 rfl rfl ?_
                        refine v_cVv C dX3_search_144 lX3_75 mX3_put 51 (by omega) hE60 (by decide) rfl (t_X3_put l G ad hJ56 y54 (show (0 : Int) ≤ Int32.toInt y54 ∧ Int32.toInt y54 ≤ 49 by omega)) ⟨by decide, by decide⟩ rfl (Nat.le_of_ble_eq_true rfl) ⟨Nat.zero_le _, Nat.zero_le _⟩ (fun E72 hJ74 => ?_)
                        refine v_aload_n C 0 dX3_search_147 rfl rfl ?_
                        obtain ⟨i75, hE75, hb75⟩ := hJ74.2.2.getO (b := 51) (by omega) rfl
                        refine v_getr C 51 dX3_search_148 fX3_38 (by omega) hE75 rfl rfl ?_
                        refine v_aload_n C 0 dX3_search_151 rfl rfl ?_
                        refine v_getr C 51 dX3_search_152 fX3_12 (by omega) hE75 rfl rfl ?_
                        obtain ⟨i80, hE80, hb80⟩ := hJ74.2.2.getO (b := 48) (by omega) rfl
                        refine v_cVi C dX3_search_155 lX3_64 mX1_isRight 48 (by omega) hE80 (by decide) rfl (t_X1_isRight l G ad hJ74 52 pc52) ⟨by decide, by decide⟩ rfl (Nat.le_of_ble_eq_true rfl) ⟨Nat.zero_le _, Nat.zero_le _⟩ (fun r76 E77 hp78 => ?_)
                        obtain ⟨hp78, hJ79⟩ := hp78
                        rcases hp78 with rfl | rfl
                        · refine b_if_eq C 167 dX3_search_158 (by decide) (show (0 : Int32).toInt = 0 by decide) (fun c81 => ?_) (fun c81 => absurd c81 (by decide))
                          refine v_aload_n C 0 dX3_search_167 rfl rfl ?_
                          refine v_aload_n C 1 dX3_search_168 rfl rfl ?_
                          refine v_iload_n C 3 dX3_search_169 rfl rfl ?_
                          obtain ⟨i86, hE86, hb86⟩ := hJ79.2.2.getO (b := 51) (by omega) rfl
                          refine v_cVv C dX3_search_170 lX3_79 mX3_undo 51 (by omega) hE86 (by decide) rfl (t_X3_undo l G ad hJ79 c hc (by omega) y54 (show (0 : Int) ≤ Int32.toInt y54 ∧ Int32.toInt y54 ≤ 49 by omega)) ⟨by decide, by decide⟩ rfl (Nat.le_of_ble_eq_true rfl) ⟨Nat.zero_le _, Nat.zero_le _⟩ (fun E83 hJ85 => ?_)
                          obtain ⟨x87, ex87⟩ : ∃ y : Int32, y = y54 + 1 := ⟨_, rfl⟩
                          have hx87 : x87.toInt = (y54.toInt + 1) := by rw [ex87]; exact ti_add (rfl : Int32.toInt y54 = _) (show (1 : Int32).toInt = 1 by decide) (by omega) (by omega)
                          refine v_iinc (v := x87) (lv' := [(0, .ref (ad 51)), (1, .ref (ad c)), (2, .int y35), (3, .int x87)]) C 3 [1, 2, 3, 0] dX3_search_173 rfl (ex87.symm) (by decide) rfl ?_
                          refine v_goto C 116 dX3_search_176 (by decide) ?_
                          exact ih57 _ x87 hJ85 (by have := hx87; omega) (by have := hx87; omega)
                        · refine b_if_eq C 167 dX3_search_158 (by decide) (show (1 : Int32).toInt = 1 by decide) (fun c88 => absurd c88 (by decide)) (fun c88 => ?_)
                          refine v_aload_n C 0 dX3_search_161 rfl rfl ?_
                          refine v_iconst (v := 2) C dX3_search_162 (by decide) ?_
                          obtain ⟨i93, hE93, hb93⟩ := hJ79.2.2.getO (b := 51) (by omega) rfl
                          refine v_cVi C dX3_search_163 lX3_68 mX3_keepTrial 51 (by omega) hE93 (by decide) rfl (t_X3_keepTrial l G ad hJ79 2) ⟨by decide, by decide⟩ rfl (Nat.le_of_ble_eq_true rfl) ⟨Nat.zero_le _, Nat.zero_le _⟩ (fun r89 E90 hp91 => ?_)
                          obtain ⟨hp91, hJ92⟩ := hp91
                          exact v_ret C dX3_search_166 rfl rfl ⟨(ti_any r89), hJ92⟩
                      · refine v_goto C 173 dX3_search_139 (by decide) ?_
                        obtain ⟨x94, ex94⟩ : ∃ y : Int32, y = y54 + 1 := ⟨_, rfl⟩
                        have hx94 : x94.toInt = (y54.toInt + 1) := by rw [ex94]; exact ti_add (rfl : Int32.toInt y54 = _) (show (1 : Int32).toInt = 1 by decide) (by omega) (by omega)
                        refine v_iinc (v := x94) (lv' := [(0, .ref (ad 51)), (1, .ref (ad c)), (2, .int y35), (3, .int x94)]) C 3 [1, 2, 3, 0] dX3_search_173 rfl (ex94.symm) (by decide) rfl ?_
                        refine v_goto C 116 dX3_search_176 (by decide) ?_
                        exact ih57 _ x94 hJ56 (by have := hx94; omega) (by have := hx94; omega)
                exact LP53 100000 _ x52 hJ51 (by have := hx52; omega) (by have := hx52; omega)
          exact LP34 100000 _ 0 hJ28 (by have := (show (0 : Int32).toInt = 0 by decide); omega) (by have := (show (0 : Int32).toInt = 0 by decide); omega)
        · refine v_aload_n C 0 dX3_search_60 rfl rfl ?_
          refine v_iload_n C 2 dX3_search_61 rfl rfl ?_
          refine v_cVv C dX3_search_62 lX3_75 mX3_put 51 (by omega) hE32 (by decide) rfl (t_X3_put l G ad hJ28 y26 (show (0 : Int) ≤ Int32.toInt y26 ∧ Int32.toInt y26 ≤ 49 by omega)) ⟨by decide, by decide⟩ rfl (Nat.le_of_ble_eq_true rfl) ⟨Nat.zero_le _, Nat.zero_le _⟩ (fun E96 hJ98 => ?_)
          refine v_aload_n C 0 dX3_search_65 rfl rfl ?_
          obtain ⟨i99, hE99, hb99⟩ := hJ98.2.2.getO (b := 51) (by omega) rfl
          refine v_getr C 51 dX3_search_66 fX3_38 (by omega) hE99 rfl rfl ?_
          refine v_aload_n C 0 dX3_search_69 rfl rfl ?_
          refine v_getr C 51 dX3_search_70 fX3_12 (by omega) hE99 rfl rfl ?_
          obtain ⟨i104, hE104, hb104⟩ := hJ98.2.2.getO (b := 48) (by omega) rfl
          refine v_cVi C dX3_search_73 lX3_64 mX1_isRight 48 (by omega) hE104 (by decide) rfl (t_X1_isRight l G ad hJ98 52 pc52) ⟨by decide, by decide⟩ rfl (Nat.le_of_ble_eq_true rfl) ⟨Nat.zero_le _, Nat.zero_le _⟩ (fun r100 E101 hp102 => ?_)
          obtain ⟨hp102, hJ103⟩ := hp102
          rcases hp102 with rfl | rfl
          · refine b_if_eq C 85 dX3_search_76 (by decide) (show (0 : Int32).toInt = 0 by decide) (fun c105 => ?_) (fun c105 => absurd c105 (by decide))
            refine v_aload_n C 0 dX3_search_85 rfl rfl ?_
            refine v_aload_n C 1 dX3_search_86 rfl rfl ?_
            refine v_iload_n C 2 dX3_search_87 rfl rfl ?_
            obtain ⟨i110, hE110, hb110⟩ := hJ103.2.2.getO (b := 51) (by omega) rfl
            refine v_cVv C dX3_search_88 lX3_79 mX3_undo 51 (by omega) hE110 (by decide) rfl (t_X3_undo l G ad hJ103 c hc (by omega) y26 (show (0 : Int) ≤ Int32.toInt y26 ∧ Int32.toInt y26 ≤ 49 by omega)) ⟨by decide, by decide⟩ rfl (Nat.le_of_ble_eq_true rfl) ⟨Nat.zero_le _, Nat.zero_le _⟩ (fun E107 hJ109 => ?_)
            obtain ⟨x111, ex111⟩ : ∃ y : Int32, y = y26 + 1 := ⟨_, rfl⟩
            have hx111 : x111.toInt = (y26.toInt + 1) := by rw [ex111]; exact ti_add (rfl : Int32.toInt y26 = _) (show (1 : Int32).toInt = 1 by decide) (by omega) (by omega)
            refine v_iinc (v := x111) (lv' := [(0, .ref (ad 51)), (1, .ref (ad c)), (2, .int x111)]) C 2 [1, 2, 0] dX3_search_91 rfl (ex111.symm) (by decide) rfl ?_
            refine v_goto C 52 dX3_search_94 (by decide) ?_
            exact ih29 _ x111 hJ109 (by have := hx111; omega) (by have := hx111; omega)
          · refine b_if_eq C 85 dX3_search_76 (by decide) (show (1 : Int32).toInt = 1 by decide) (fun c112 => absurd c112 (by decide)) (fun c112 => ?_)
            refine v_aload_n C 0 dX3_search_79 rfl rfl ?_
            refine v_iconst (v := 1) C dX3_search_80 (by decide) ?_
            obtain ⟨i117, hE117, hb117⟩ := hJ103.2.2.getO (b := 51) (by omega) rfl
            refine v_cVi C dX3_search_81 lX3_68 mX3_keepTrial 51 (by omega) hE117 (by decide) rfl (t_X3_keepTrial l G ad hJ103 1) ⟨by decide, by decide⟩ rfl (Nat.le_of_ble_eq_true rfl) ⟨Nat.zero_le _, Nat.zero_le _⟩ (fun r113 E114 hp115 => ?_)
            obtain ⟨hp115, hJ116⟩ := hp115
            exact v_ret C dX3_search_84 rfl rfl ⟨(ti_any r113), hJ116⟩
    exact LP25 100000 _ 0 hJ22 (by have := (show (0 : Int32).toInt = 0 by decide); omega) (by have := (show (0 : Int32).toInt = 0 by decide); omega)
  · refine b_if_eq C 50 dX3_search_41 (by decide) (show (1 : Int32).toInt = 1 by decide) (fun c118 => absurd c118 (by decide)) (fun c118 => ?_)
    refine v_aload_n C 0 dX3_search_44 rfl rfl ?_
    refine v_iconst (v := 0) C dX3_search_45 (by decide) ?_
    obtain ⟨i123, hE123, hb123⟩ := hJ22.2.2.getO (b := 51) (by omega) rfl
    refine v_cVi C dX3_search_46 lX3_68 mX3_keepTrial 51 (by omega) hE123 (by decide) rfl (t_X3_keepTrial l G ad hJ22 0) ⟨by decide, by decide⟩ rfl (Nat.le_of_ble_eq_true rfl) ⟨Nat.zero_le _, Nat.zero_le _⟩ (fun r119 E120 hp121 => ?_)
    obtain ⟨hp121, hJ122⟩ := hp121
    exact v_ret C dX3_search_49 rfl rfl ⟨(ti_any r119), hJ122⟩

