set_option maxRecDepth 20000 in
theorem d_forget (l : Launch) (G : Gl) (n : Nat) (ad : Nat → Nat) (E : Nat → va_E) (hn : 98 ≤ n) {im : Nat → Int32} (h68 : E 68 = ob 9 (rX9 ad) im) {fz : Nat → Int32} (h79 : E 79 = aZ G 5 fz)  : CtV l G yX9_forget cX9_forget 2 0 0 n ad E [.ref (ad 68)] (fun E' => ∃ fz2 : Nat → Int32, E' 79 = aZ G 5 fz2 ∧ ∀ j, j ≠ 79 → E' j = E j) := by
  refine CtV.of (by decide) (Nat.le_of_ble_eq_true rfl) (fun X A C => ?_)
  refine v_sub (lv' := [(0, .ref (ad 68))]) [0] rfl ?_
  refine v_iconst (v := 0) C dX9_forget_0 (by decide) ?_
  refine v_istore_n (lv' := [(0, .ref (ad 68)), (1, .int 0)]) C [1, 0] dX9_forget_1 rfl (by decide) rfl ?_
  refine v_iload_n C 1 dX9_forget_2 rfl rfl ?_
  refine v_iconst (v := 5) C dX9_forget_3 (by decide) ?_
  refine b_icmp_ge C 20 dX9_forget_4 (by decide) (show (0 : Int32).toInt = 0 by decide) (show (5 : Int32).toInt = 5 by decide) (fun c1 => absurd c1 (by decide)) (fun c1 => ?_)
  refine v_aload_n C 0 dX9_forget_7 rfl rfl ?_
  refine v_getr C 68 dX9_forget_8 fX9_57 (by omega) h68 rfl rfl ?_
  refine v_iload_n C 1 dX9_forget_11 rfl rfl ?_
  refine v_iconst (v := 0) C dX9_forget_12 (by decide) ?_
  refine v_zast C 79 dX9_forget_13 (by omega) h79 (ti_in (show (0 : Int32).toInt = 0 by decide) (by omega) (by omega)) rfl (fun E2 hE2_79 oE2 => ?_)
  rw [ti_cl (show (0 : Int32).toInt = 0 by decide), show Int.toNat 0 = 0 by omega] at hE2_79
  have hE2_68 := (oE2 68 (by decide)).trans h68
  refine v_iinc (v := 1) (lv' := [(0, .ref (ad 68)), (1, .int 1)]) C 1 [1, 0] dX9_forget_14 rfl (by decide) (by decide) rfl ?_
  refine v_goto C 2 dX9_forget_17 (by decide) ?_
  refine v_iload_n C 1 dX9_forget_2 rfl rfl ?_
  refine v_iconst (v := 5) C dX9_forget_3 (by decide) ?_
  refine b_icmp_ge C 20 dX9_forget_4 (by decide) (show (1 : Int32).toInt = 1 by decide) (show (5 : Int32).toInt = 5 by decide) (fun c3 => absurd c3 (by decide)) (fun c3 => ?_)
  refine v_aload_n C 0 dX9_forget_7 rfl rfl ?_
  refine v_getr C 68 dX9_forget_8 fX9_57 (by omega) hE2_68 rfl rfl ?_
  refine v_iload_n C 1 dX9_forget_11 rfl rfl ?_
  refine v_iconst (v := 0) C dX9_forget_12 (by decide) ?_
  refine v_zast C 79 dX9_forget_13 (by omega) hE2_79 (ti_in (show (1 : Int32).toInt = 1 by decide) (by omega) (by omega)) rfl (fun E4 hE4_79 oE4 => ?_)
  rw [ti_cl (show (1 : Int32).toInt = 1 by decide), show Int.toNat 1 = 1 by omega] at hE4_79
  have hE4_68 := (oE4 68 (by decide)).trans hE2_68
  refine v_iinc (v := 2) (lv' := [(0, .ref (ad 68)), (1, .int 2)]) C 1 [1, 0] dX9_forget_14 rfl (by decide) (by decide) rfl ?_
  refine v_goto C 2 dX9_forget_17 (by decide) ?_
  refine v_iload_n C 1 dX9_forget_2 rfl rfl ?_
  refine v_iconst (v := 5) C dX9_forget_3 (by decide) ?_
  refine b_icmp_ge C 20 dX9_forget_4 (by decide) (show (2 : Int32).toInt = 2 by decide) (show (5 : Int32).toInt = 5 by decide) (fun c5 => absurd c5 (by decide)) (fun c5 => ?_)
  refine v_aload_n C 0 dX9_forget_7 rfl rfl ?_
  refine v_getr C 68 dX9_forget_8 fX9_57 (by omega) hE4_68 rfl rfl ?_
  refine v_iload_n C 1 dX9_forget_11 rfl rfl ?_
  refine v_iconst (v := 0) C dX9_forget_12 (by decide) ?_
  refine v_zast C 79 dX9_forget_13 (by omega) hE4_79 (ti_in (show (2 : Int32).toInt = 2 by decide) (by omega) (by omega)) rfl (fun E6 hE6_79 oE6 => ?_)
  rw [ti_cl (show (2 : Int32).toInt = 2 by decide), show Int.toNat 2 = 2 by omega] at hE6_79
  have hE6_68 := (oE6 68 (by decide)).trans hE4_68
  refine v_iinc (v := 3) (lv' := [(0, .ref (ad 68)), (1, .int 3)]) C 1 [1, 0] dX9_forget_14 rfl (by decide) (by decide) rfl ?_
  refine v_goto C 2 dX9_forget_17 (by decide) ?_
  refine v_iload_n C 1 dX9_forget_2 rfl rfl ?_
  refine v_iconst (v := 5) C dX9_forget_3 (by decide) ?_
  refine b_icmp_ge C 20 dX9_forget_4 (by decide) (show (3 : Int32).toInt = 3 by decide) (show (5 : Int32).toInt = 5 by decide) (fun c7 => absurd c7 (by decide)) (fun c7 => ?_)
  refine v_aload_n C 0 dX9_forget_7 rfl rfl ?_
  refine v_getr C 68 dX9_forget_8 fX9_57 (by omega) hE6_68 rfl rfl ?_
  refine v_iload_n C 1 dX9_forget_11 rfl rfl ?_
  refine v_iconst (v := 0) C dX9_forget_12 (by decide) ?_
  refine v_zast C 79 dX9_forget_13 (by omega) hE6_79 (ti_in (show (3 : Int32).toInt = 3 by decide) (by omega) (by omega)) rfl (fun E8 hE8_79 oE8 => ?_)
  rw [ti_cl (show (3 : Int32).toInt = 3 by decide), show Int.toNat 3 = 3 by omega] at hE8_79
  have hE8_68 := (oE8 68 (by decide)).trans hE6_68
  refine v_iinc (v := 4) (lv' := [(0, .ref (ad 68)), (1, .int 4)]) C 1 [1, 0] dX9_forget_14 rfl (by decide) (by decide) rfl ?_
  refine v_goto C 2 dX9_forget_17 (by decide) ?_
  refine v_iload_n C 1 dX9_forget_2 rfl rfl ?_
  refine v_iconst (v := 5) C dX9_forget_3 (by decide) ?_
  refine b_icmp_ge C 20 dX9_forget_4 (by decide) (show (4 : Int32).toInt = 4 by decide) (show (5 : Int32).toInt = 5 by decide) (fun c9 => absurd c9 (by decide)) (fun c9 => ?_)
  refine v_aload_n C 0 dX9_forget_7 rfl rfl ?_
  refine v_getr C 68 dX9_forget_8 fX9_57 (by omega) hE8_68 rfl rfl ?_
  refine v_iload_n C 1 dX9_forget_11 rfl rfl ?_
  refine v_iconst (v := 0) C dX9_forget_12 (by decide) ?_
  refine v_zast C 79 dX9_forget_13 (by omega) hE8_79 (ti_in (show (4 : Int32).toInt = 4 by decide) (by omega) (by omega)) rfl (fun E10 hE10_79 oE10 => ?_)
  rw [ti_cl (show (4 : Int32).toInt = 4 by decide), show Int.toNat 4 = 4 by omega] at hE10_79
  have hE10_68 := (oE10 68 (by decide)).trans hE8_68
  refine v_iinc (v := 5) (lv' := [(0, .ref (ad 68)), (1, .int 5)]) C 1 [1, 0] dX9_forget_14 rfl (by decide) (by decide) rfl ?_
  refine v_goto C 2 dX9_forget_17 (by decide) ?_
  refine v_iload_n C 1 dX9_forget_2 rfl rfl ?_
  refine v_iconst (v := 5) C dX9_forget_3 (by decide) ?_
  refine b_icmp_ge C 20 dX9_forget_4 (by decide) (show (5 : Int32).toInt = 5 by decide) (show (5 : Int32).toInt = 5 by decide) (fun c11 => ?_) (fun c11 => absurd c11 (by decide))
  exact v_vret C dX9_forget_20 rfl ⟨_, hE10_79, fun j h0 => ((oE10 j h0).trans ((oE8 j h0).trans ((oE6 j h0).trans ((oE4 j h0).trans (oE2 j h0)))))⟩

set_option maxRecDepth 20000 in
theorem m_month (l : Launch) (G : Gl) (n : Nat) (ad : Nat → Nat) (E : Nat → va_E) (hn : 98 ≤ n) (hf : FreshM G ad E) (m : Int32) (d : Int32)  : CtI l G yX9_month cX9_month 4 .int 1 22 n ad E [.ref (ad 68), .int m, .int d] (fun r E' => r.toInt = if 0 ≤ m.toInt ∧ m.toInt < 12 ∧ 1 ≤ d.toInt ∧ d.toInt ≤ 40 then (md30 (Int.toNat m.toInt)).toInt else -1) := by
  refine CtI.of (by decide) (Nat.le_of_ble_eq_true rfl) (fun X A C => ?_)
  obtain ⟨h68, h69, h70, h71, h72, h73, h74, h75, h76, h77, h78, h79, h80, h81, h82, h83, h84, h85, h86, h87, h88, h89, h90, h91, h92, h93, h94, h95, h96, h97⟩ := id hf
  refine v_sub (lv' := [(0, .ref (ad 68)), (1, .int m), (2, .int d)]) [0, 1, 2] rfl ?_
  refine v_iload_n C 1 dX9_month_0 rfl rfl ?_
  refine v_iconst (v := 0) C dX9_month_1 (by decide) ?_
  refine v_bipush (v := 11) C dX9_month_2 (by decide) ?_
  refine v_cSp C dX9_month_4 lX9_131 mX9_within (d_within l G n ad _ m 0 11) ⟨by decide, by decide⟩ rfl (Nat.le_of_ble_eq_true rfl) ⟨Nat.zero_le _, Nat.zero_le _⟩ (fun r1 hp2 => ?_)
  rw [(show (0 : Int32).toInt = 0 by decide)] at hp2
  rw [(show (11 : Int32).toInt = 11 by decide)] at hp2
  rcases hp2 with ⟨rfl, hp2⟩ | ⟨rfl, hp2⟩
  · refine b_if_eq C 20 dX9_month_7 (by decide) (show (1 : Int32).toInt = 1 by decide) (fun c3 => absurd c3 (by decide)) (fun c3 => ?_)
    refine v_iload_n C 2 dX9_month_10 rfl rfl ?_
    refine v_iconst (v := 1) C dX9_month_11 (by decide) ?_
    refine v_bipush (v := 40) C dX9_month_12 (by decide) ?_
    refine v_cSp C dX9_month_14 lX9_131 mX9_within (d_within l G n ad _ d 1 40) ⟨by decide, by decide⟩ rfl (Nat.le_of_ble_eq_true rfl) ⟨Nat.zero_le _, Nat.zero_le _⟩ (fun r4 hp5 => ?_)
    rw [(show (1 : Int32).toInt = 1 by decide)] at hp5
    rw [(show (40 : Int32).toInt = 40 by decide)] at hp5
    rcases hp5 with ⟨rfl, hp5⟩ | ⟨rfl, hp5⟩
    · refine b_if_ne C 22 dX9_month_17 (by decide) (show (1 : Int32).toInt = 1 by decide) (fun c6 => ?_) (fun c6 => absurd c6 (by decide))
      refine v_aload_n C 0 dX9_month_22 rfl rfl ?_
      refine v_geti (v := 0) C 68 dX9_month_23 fX9_135 (by omega) h68 rfl rfl ?_
      refine b_if_le C 32 dX9_month_26 (by decide) (show (0 : Int32).toInt = 0 by decide) (fun c7 => ?_) (fun c7 => absurd c7 (by decide))
      refine v_aload_n C 0 dX9_month_32 rfl rfl ?_
      refine v_getr C 68 dX9_month_33 fX9_9 (by omega) h68 rfl rfl ?_
      refine v_iload_n C 1 dX9_month_36 rfl rfl ?_
      refine v_ald (v := md30 (m.toInt).toNat) C 69 dX9_month_37 (by omega) h69 (ti_in (rfl : Int32.toInt m = _) (by omega) (by omega)) (by rw [ti_cl (rfl : Int32.toInt m = _)]) ?_
      refine v_istore_n (lv' := [(0, .ref (ad 68)), (1, .int m), (2, .int d), (3, .int (md30 (m.toInt).toNat))]) C [1, 2, 3, 0] dX9_month_38 rfl (by decide) rfl ?_
      refine v_aload_n C 0 dX9_month_39 rfl rfl ?_
      refine v_getr C 68 dX9_month_40 fX9_9 (by omega) h68 rfl rfl ?_
      refine v_iload_n C 1 dX9_month_43 rfl rfl ?_
      refine v_iload_n C 2 dX9_month_44 rfl rfl ?_
      refine v_ast C 69 dX9_month_45 (by omega) h69 (ti_in (rfl : Int32.toInt m = _) (by omega) (by omega)) (fun E8 hE8_69 oE8 => ?_)
      rw [ti_cl (rfl : Int32.toInt m = _)] at hE8_69
      have hE8_68 := (oE8 68 (by decide)).trans h68
      refine v_aload_n C 0 dX9_month_46 rfl rfl ?_
      refine v_iconst (v := 0) C dX9_month_47 (by decide) ?_
      refine v_puti C 68 dX9_month_48 fX9_116 (by omega) hE8_68 rfl rfl rfl rfl (fun E9 hE9_68 oE9 => ?_)
      have hE9_69 := (oE9 69 (by decide)).trans hE8_69
      refine v_iload_n C 3 dX9_month_51 rfl rfl ?_
      exact v_ret C dX9_month_52 rfl rfl (show _ by (repeat first | rw [if_pos (by omega)] | rw [if_neg (by omega)]); try omega)
    · refine b_if_ne C 22 dX9_month_17 (by decide) (show (0 : Int32).toInt = 0 by decide) (fun c10 => absurd c10 (by decide)) (fun c10 => ?_)
      refine v_iconst (v := (-1)) C dX9_month_20 (by decide) ?_
      exact v_ret C dX9_month_21 rfl rfl (show _ by rw [show ((-1) : Int32).toInt = (-1) by decide]; (repeat first | rw [if_pos (by omega)] | rw [if_neg (by omega)]); try omega)
  · refine b_if_eq C 20 dX9_month_7 (by decide) (show (0 : Int32).toInt = 0 by decide) (fun c11 => ?_) (fun c11 => absurd c11 (by decide))
    refine v_iconst (v := (-1)) C dX9_month_20 (by decide) ?_
    exact v_ret C dX9_month_21 rfl rfl (show _ by rw [show ((-1) : Int32).toInt = (-1) by decide]; (repeat first | rw [if_pos (by omega)] | rw [if_neg (by omega)]); try omega)

set_option maxRecDepth 20000 in
theorem m_leap (l : Launch) (G : Gl) (n : Nat) (ad : Nat → Nat) (E : Nat → va_E) (hn : 98 ≤ n) (hf : FreshM G ad E) (a : Int32) (b : Int32) (m : Int32)  : CtI l G yX9_leap cX9_leap 4 .int 1 22 n ad E [.ref (ad 68), .int a, .int b, .int m] (fun r E' => r.toInt = if 2 ≤ a.toInt ∧ a.toInt ≤ 50 ∧ 2 ≤ b.toInt ∧ b.toInt ≤ 100 ∧ 0 ≤ m.toInt ∧ m.toInt < 12 then 1 else -1) := by
  refine CtI.of (by decide) (Nat.le_of_ble_eq_true rfl) (fun X A C => ?_)
  obtain ⟨h68, h69, h70, h71, h72, h73, h74, h75, h76, h77, h78, h79, h80, h81, h82, h83, h84, h85, h86, h87, h88, h89, h90, h91, h92, h93, h94, h95, h96, h97⟩ := id hf
  refine v_sub (lv' := [(0, .ref (ad 68)), (1, .int a), (2, .int b), (3, .int m)]) [0, 1, 2, 3] rfl ?_
  refine v_iload_n C 1 dX9_leap_0 rfl rfl ?_
  refine v_iconst (v := 2) C dX9_leap_1 (by decide) ?_
  refine v_bipush (v := 50) C dX9_leap_2 (by decide) ?_
  refine v_cSp C dX9_leap_4 lX9_131 mX9_within (d_within l G n ad _ a 2 50) ⟨by decide, by decide⟩ rfl (Nat.le_of_ble_eq_true rfl) ⟨Nat.zero_le _, Nat.zero_le _⟩ (fun r1 hp2 => ?_)
  rw [(show (2 : Int32).toInt = 2 by decide)] at hp2
  rw [(show (50 : Int32).toInt = 50 by decide)] at hp2
  rcases hp2 with ⟨rfl, hp2⟩ | ⟨rfl, hp2⟩
  · refine b_if_eq C 30 dX9_leap_7 (by decide) (show (1 : Int32).toInt = 1 by decide) (fun c3 => absurd c3 (by decide)) (fun c3 => ?_)
    refine v_iload_n C 2 dX9_leap_10 rfl rfl ?_
    refine v_iconst (v := 2) C dX9_leap_11 (by decide) ?_
    refine v_bipush (v := 100) C dX9_leap_12 (by decide) ?_
    refine v_cSp C dX9_leap_14 lX9_131 mX9_within (d_within l G n ad _ b 2 100) ⟨by decide, by decide⟩ rfl (Nat.le_of_ble_eq_true rfl) ⟨Nat.zero_le _, Nat.zero_le _⟩ (fun r4 hp5 => ?_)
    rw [(show (2 : Int32).toInt = 2 by decide)] at hp5
    rw [(show (100 : Int32).toInt = 100 by decide)] at hp5
    rcases hp5 with ⟨rfl, hp5⟩ | ⟨rfl, hp5⟩
    · refine b_if_eq C 30 dX9_leap_17 (by decide) (show (1 : Int32).toInt = 1 by decide) (fun c6 => absurd c6 (by decide)) (fun c6 => ?_)
      refine v_iload_n C 3 dX9_leap_20 rfl rfl ?_
      refine v_iconst (v := 0) C dX9_leap_21 (by decide) ?_
      refine v_bipush (v := 11) C dX9_leap_22 (by decide) ?_
      refine v_cSp C dX9_leap_24 lX9_131 mX9_within (d_within l G n ad _ m 0 11) ⟨by decide, by decide⟩ rfl (Nat.le_of_ble_eq_true rfl) ⟨Nat.zero_le _, Nat.zero_le _⟩ (fun r7 hp8 => ?_)
      rw [(show (0 : Int32).toInt = 0 by decide)] at hp8
      rw [(show (11 : Int32).toInt = 11 by decide)] at hp8
      rcases hp8 with ⟨rfl, hp8⟩ | ⟨rfl, hp8⟩
      · refine b_if_ne C 32 dX9_leap_27 (by decide) (show (1 : Int32).toInt = 1 by decide) (fun c9 => ?_) (fun c9 => absurd c9 (by decide))
        refine v_aload_n C 0 dX9_leap_32 rfl rfl ?_
        refine v_geti (v := 0) C 68 dX9_leap_33 fX9_135 (by omega) h68 rfl rfl ?_
        refine b_if_le C 42 dX9_leap_36 (by decide) (show (0 : Int32).toInt = 0 by decide) (fun c10 => ?_) (fun c10 => absurd c10 (by decide))
        refine v_aload_n C 0 dX9_leap_42 rfl rfl ?_
        refine v_iload_n C 1 dX9_leap_43 rfl rfl ?_
        refine v_puti C 68 dX9_leap_44 fX9_13 (by omega) h68 rfl rfl rfl rfl (fun E11 hE11_68 oE11 => ?_)
        refine v_aload_n C 0 dX9_leap_47 rfl rfl ?_
        refine v_iload_n C 2 dX9_leap_48 rfl rfl ?_
        refine v_puti C 68 dX9_leap_49 fX9_17 (by omega) hE11_68 rfl rfl rfl rfl (fun E12 hE12_68 oE12 => ?_)
        refine v_aload_n C 0 dX9_leap_52 rfl rfl ?_
        refine v_iload_n C 3 dX9_leap_53 rfl rfl ?_
        refine v_puti C 68 dX9_leap_54 fX9_20 (by omega) hE12_68 rfl rfl rfl rfl (fun E13 hE13_68 oE13 => ?_)
        refine v_aload_n C 0 dX9_leap_57 rfl rfl ?_
        refine v_iconst (v := 0) C dX9_leap_58 (by decide) ?_
        refine v_puti C 68 dX9_leap_59 fX9_116 (by omega) hE13_68 rfl rfl rfl rfl (fun E14 hE14_68 oE14 => ?_)
        refine v_iconst (v := 1) C dX9_leap_62 (by decide) ?_
        exact v_ret C dX9_leap_63 rfl rfl (show _ by rw [show (1 : Int32).toInt = 1 by decide]; (repeat first | rw [if_pos (by omega)] | rw [if_neg (by omega)]); try omega)
      · refine b_if_ne C 32 dX9_leap_27 (by decide) (show (0 : Int32).toInt = 0 by decide) (fun c15 => absurd c15 (by decide)) (fun c15 => ?_)
        refine v_iconst (v := (-1)) C dX9_leap_30 (by decide) ?_
        exact v_ret C dX9_leap_31 rfl rfl (show _ by rw [show ((-1) : Int32).toInt = (-1) by decide]; (repeat first | rw [if_pos (by omega)] | rw [if_neg (by omega)]); try omega)
    · refine b_if_eq C 30 dX9_leap_17 (by decide) (show (0 : Int32).toInt = 0 by decide) (fun c16 => ?_) (fun c16 => absurd c16 (by decide))
      refine v_iconst (v := (-1)) C dX9_leap_30 (by decide) ?_
      exact v_ret C dX9_leap_31 rfl rfl (show _ by rw [show ((-1) : Int32).toInt = (-1) by decide]; (repeat first | rw [if_pos (by omega)] | rw [if_neg (by omega)]); try omega)
  · refine b_if_eq C 30 dX9_leap_7 (by decide) (show (0 : Int32).toInt = 0 by decide) (fun c17 => ?_) (fun c17 => absurd c17 (by decide))
    refine v_iconst (v := (-1)) C dX9_leap_30 (by decide) ?_
    exact v_ret C dX9_leap_31 rfl rfl (show _ by rw [show ((-1) : Int32).toInt = (-1) by decide]; (repeat first | rw [if_pos (by omega)] | rw [if_neg (by omega)]); try omega)

set_option maxRecDepth 20000 in
theorem m_week (l : Launch) (G : Gl) (n : Nat) (ad : Nat → Nat) (E : Nat → va_E) (hn : 98 ≤ n) (hf : FreshM G ad E) (w : Int32) (f : Int32)  : CtI l G yX9_week cX9_week 3 .int 1 22 n ad E [.ref (ad 68), .int w, .int f] (fun r E' => r.toInt = if 2 ≤ w.toInt ∧ w.toInt ≤ 10 ∧ 0 ≤ f.toInt ∧ f.toInt ≤ 9 then 1 else -1) := by
  refine CtI.of (by decide) (Nat.le_of_ble_eq_true rfl) (fun X A C => ?_)
  obtain ⟨h68, h69, h70, h71, h72, h73, h74, h75, h76, h77, h78, h79, h80, h81, h82, h83, h84, h85, h86, h87, h88, h89, h90, h91, h92, h93, h94, h95, h96, h97⟩ := id hf
  refine v_sub (lv' := [(0, .ref (ad 68)), (1, .int w), (2, .int f)]) [0, 1, 2] rfl ?_
  refine v_iload_n C 1 dX9_week_0 rfl rfl ?_
  refine v_iconst (v := 2) C dX9_week_1 (by decide) ?_
  refine v_bipush (v := 10) C dX9_week_2 (by decide) ?_
  refine v_cSp C dX9_week_4 lX9_131 mX9_within (d_within l G n ad _ w 2 10) ⟨by decide, by decide⟩ rfl (Nat.le_of_ble_eq_true rfl) ⟨Nat.zero_le _, Nat.zero_le _⟩ (fun r1 hp2 => ?_)
  rw [(show (2 : Int32).toInt = 2 by decide)] at hp2
  rw [(show (10 : Int32).toInt = 10 by decide)] at hp2
  rcases hp2 with ⟨rfl, hp2⟩ | ⟨rfl, hp2⟩
  · refine b_if_eq C 20 dX9_week_7 (by decide) (show (1 : Int32).toInt = 1 by decide) (fun c3 => absurd c3 (by decide)) (fun c3 => ?_)
    refine v_iload_n C 2 dX9_week_10 rfl rfl ?_
    refine v_iconst (v := 0) C dX9_week_11 (by decide) ?_
    refine v_bipush (v := 9) C dX9_week_12 (by decide) ?_
    refine v_cSp C dX9_week_14 lX9_131 mX9_within (d_within l G n ad _ f 0 9) ⟨by decide, by decide⟩ rfl (Nat.le_of_ble_eq_true rfl) ⟨Nat.zero_le _, Nat.zero_le _⟩ (fun r4 hp5 => ?_)
    rw [(show (0 : Int32).toInt = 0 by decide)] at hp5
    rw [(show (9 : Int32).toInt = 9 by decide)] at hp5
    rcases hp5 with ⟨rfl, hp5⟩ | ⟨rfl, hp5⟩
    · refine b_if_ne C 22 dX9_week_17 (by decide) (show (1 : Int32).toInt = 1 by decide) (fun c6 => ?_) (fun c6 => absurd c6 (by decide))
      refine v_aload_n C 0 dX9_week_22 rfl rfl ?_
      refine v_geti (v := 0) C 68 dX9_week_23 fX9_135 (by omega) h68 rfl rfl ?_
      refine b_if_le C 32 dX9_week_26 (by decide) (show (0 : Int32).toInt = 0 by decide) (fun c7 => ?_) (fun c7 => absurd c7 (by decide))
      refine v_aload_n C 0 dX9_week_32 rfl rfl ?_
      refine v_iload_n C 1 dX9_week_33 rfl rfl ?_
      refine v_puti C 68 dX9_week_34 fX9_23 (by omega) h68 rfl rfl rfl rfl (fun E8 hE8_68 oE8 => ?_)
      refine v_aload_n C 0 dX9_week_37 rfl rfl ?_
      refine v_iload_n C 2 dX9_week_38 rfl rfl ?_
      refine v_puti C 68 dX9_week_39 fX9_138 (by omega) hE8_68 rfl rfl rfl rfl (fun E9 hE9_68 oE9 => ?_)
      refine v_iconst (v := 1) C dX9_week_42 (by decide) ?_
      exact v_ret C dX9_week_43 rfl rfl (show _ by rw [show (1 : Int32).toInt = 1 by decide]; (repeat first | rw [if_pos (by omega)] | rw [if_neg (by omega)]); try omega)
    · refine b_if_ne C 22 dX9_week_17 (by decide) (show (0 : Int32).toInt = 0 by decide) (fun c10 => absurd c10 (by decide)) (fun c10 => ?_)
      refine v_iconst (v := (-1)) C dX9_week_20 (by decide) ?_
      exact v_ret C dX9_week_21 rfl rfl (show _ by rw [show ((-1) : Int32).toInt = (-1) by decide]; (repeat first | rw [if_pos (by omega)] | rw [if_neg (by omega)]); try omega)
  · refine b_if_eq C 20 dX9_week_7 (by decide) (show (0 : Int32).toInt = 0 by decide) (fun c11 => ?_) (fun c11 => absurd c11 (by decide))
    refine v_iconst (v := (-1)) C dX9_week_20 (by decide) ?_
    exact v_ret C dX9_week_21 rfl rfl (show _ by rw [show ((-1) : Int32).toInt = (-1) by decide]; (repeat first | rw [if_pos (by omega)] | rw [if_neg (by omega)]); try omega)

set_option maxRecDepth 20000 in
theorem m_today (l : Launch) (G : Gl) (n : Nat) (ad : Nat → Nat) (E : Nat → va_E) (hn : 98 ≤ n) (hf : FreshM G ad E) (d : Int32)  : CtI l G yX9_today cX9_today 3 .int 1 22 n ad E [.ref (ad 68), .int d] (fun r E' => r.toInt = if 0 ≤ d.toInt ∧ d.toInt ≤ 99999 then 0 else -1) := by
  refine CtI.of (by decide) (Nat.le_of_ble_eq_true rfl) (fun X A C => ?_)
  obtain ⟨h68, h69, h70, h71, h72, h73, h74, h75, h76, h77, h78, h79, h80, h81, h82, h83, h84, h85, h86, h87, h88, h89, h90, h91, h92, h93, h94, h95, h96, h97⟩ := id hf
  refine v_sub (lv' := [(0, .ref (ad 68)), (1, .int d)]) [0, 1] rfl ?_
  refine v_iload_n C 1 dX9_today_0 rfl rfl ?_
  refine v_aload_n C 0 dX9_today_1 rfl rfl ?_
  refine v_geti (v := 0) C 68 dX9_today_2 fX9_165 (by omega) h68 rfl rfl ?_
  refine v_ldc C dX9_today_5 kX9_53 ?_
  refine v_cSp C dX9_today_7 lX9_131 mX9_within (d_within l G n ad _ d 0 99999) ⟨by decide, by decide⟩ rfl (Nat.le_of_ble_eq_true rfl) ⟨Nat.zero_le _, Nat.zero_le _⟩ (fun r1 hp2 => ?_)
  rw [(show (0 : Int32).toInt = 0 by decide)] at hp2
  rw [(show (99999 : Int32).toInt = 99999 by decide)] at hp2
  rcases hp2 with ⟨rfl, hp2⟩ | ⟨rfl, hp2⟩
  · refine b_if_ne C 15 dX9_today_10 (by decide) (show (1 : Int32).toInt = 1 by decide) (fun c3 => ?_) (fun c3 => absurd c3 (by decide))
    refine v_aload_n C 0 dX9_today_15 rfl rfl ?_
    refine v_geti (v := 0) C 68 dX9_today_16 fX9_165 (by omega) h68 rfl rfl ?_
    refine v_istore_n (lv' := [(0, .ref (ad 68)), (1, .int d), (2, .int 0)]) C [1, 2, 0] dX9_today_19 rfl (by decide) rfl ?_
    refine v_aload_n C 0 dX9_today_20 rfl rfl ?_
    refine v_iload_n C 1 dX9_today_21 rfl rfl ?_
    refine v_puti C 68 dX9_today_22 fX9_165 (by omega) h68 rfl rfl rfl rfl (fun E4 hE4_68 oE4 => ?_)
    refine v_iload_n C 2 dX9_today_25 rfl rfl ?_
    exact v_ret C dX9_today_26 rfl rfl (show _ by rw [show (0 : Int32).toInt = 0 by decide]; (repeat first | rw [if_pos (by omega)] | rw [if_neg (by omega)]); try omega)
  · refine b_if_ne C 15 dX9_today_10 (by decide) (show (0 : Int32).toInt = 0 by decide) (fun c5 => absurd c5 (by decide)) (fun c5 => ?_)
    refine v_iconst (v := (-1)) C dX9_today_13 (by decide) ?_
    exact v_ret C dX9_today_14 rfl rfl (show _ by rw [show ((-1) : Int32).toInt = (-1) by decide]; (repeat first | rw [if_pos (by omega)] | rw [if_neg (by omega)]); try omega)

set_option maxRecDepth 20000 in
theorem m_known (l : Launch) (G : Gl) (n : Nat) (ad : Nat → Nat) (E : Nat → va_E) (hn : 98 ≤ n) (hf : FreshM G ad E) (k : Int32)  : CtI l G yX9_known cX9_known 3 .int 1 22 n ad E [.ref (ad 68), .int k] (fun r E' => r.toInt = if 0 ≤ k.toInt ∧ k.toInt ≤ 99999 then 99999 else -1) := by
  refine CtI.of (by decide) (Nat.le_of_ble_eq_true rfl) (fun X A C => ?_)
  obtain ⟨h68, h69, h70, h71, h72, h73, h74, h75, h76, h77, h78, h79, h80, h81, h82, h83, h84, h85, h86, h87, h88, h89, h90, h91, h92, h93, h94, h95, h96, h97⟩ := id hf
  refine v_sub (lv' := [(0, .ref (ad 68)), (1, .int k)]) [0, 1] rfl ?_
  refine v_iload_n C 1 dX9_known_0 rfl rfl ?_
  refine v_iconst (v := 0) C dX9_known_1 (by decide) ?_
  refine v_ldc C dX9_known_2 kX9_53 ?_
  refine v_cSp C dX9_known_4 lX9_131 mX9_within (d_within l G n ad _ k 0 99999) ⟨by decide, by decide⟩ rfl (Nat.le_of_ble_eq_true rfl) ⟨Nat.zero_le _, Nat.zero_le _⟩ (fun r1 hp2 => ?_)
  rw [(show (0 : Int32).toInt = 0 by decide)] at hp2
  rw [(show (99999 : Int32).toInt = 99999 by decide)] at hp2
  rcases hp2 with ⟨rfl, hp2⟩ | ⟨rfl, hp2⟩
  · refine b_if_ne C 12 dX9_known_7 (by decide) (show (1 : Int32).toInt = 1 by decide) (fun c3 => ?_) (fun c3 => absurd c3 (by decide))
    refine v_aload_n C 0 dX9_known_12 rfl rfl ?_
    refine v_geti (v := 99999) C 68 dX9_known_13 fX9_54 (by omega) h68 rfl rfl ?_
    refine v_istore_n (lv' := [(0, .ref (ad 68)), (1, .int k), (2, .int 99999)]) C [1, 2, 0] dX9_known_16 rfl (by decide) rfl ?_
    refine v_aload_n C 0 dX9_known_17 rfl rfl ?_
    refine v_iload_n C 1 dX9_known_18 rfl rfl ?_
    refine v_puti C 68 dX9_known_19 fX9_54 (by omega) h68 rfl rfl rfl rfl (fun E4 hE4_68 oE4 => ?_)
    have hE4_79 := (oE4 79 (by decide)).trans h79
    refine v_aload_n C 0 dX9_known_22 rfl rfl ?_
    refine v_cVv C dX9_known_23 lX9_159 mX9_forget 68 (by omega) hE4_68 (by decide) rfl (d_forget l G n ad _ hn hE4_68 hE4_79) ⟨by decide, by decide⟩ rfl (Nat.le_of_ble_eq_true rfl) ⟨Nat.zero_le _, Nat.zero_le _⟩ (fun E5 hq6 => ?_)
    obtain ⟨fz2, hz2, hOz⟩ := hq6
    have hE5_68 := (hOz 68 (by decide)).trans hE4_68
    refine v_iload_n C 2 dX9_known_26 rfl rfl ?_
    exact v_ret C dX9_known_27 rfl rfl (show _ by rw [show (99999 : Int32).toInt = 99999 by decide]; (repeat first | rw [if_pos (by omega)] | rw [if_neg (by omega)]); try omega)
  · refine b_if_ne C 12 dX9_known_7 (by decide) (show (0 : Int32).toInt = 0 by decide) (fun c7 => absurd c7 (by decide)) (fun c7 => ?_)
    refine v_iconst (v := (-1)) C dX9_known_10 (by decide) ?_
    exact v_ret C dX9_known_11 rfl rfl (show _ by rw [show ((-1) : Int32).toInt = (-1) by decide]; (repeat first | rw [if_pos (by omega)] | rw [if_neg (by omega)]); try omega)

set_option maxRecDepth 20000 in
theorem m_zone (l : Launch) (G : Gl) (n : Nat) (ad : Nat → Nat) (E : Nat → va_E) (hn : 98 ≤ n) (hf : FreshM G ad E) (v : Int32)  : CtI l G yX9_zone cX9_zone 2 .int 1 22 n ad E [.ref (ad 68), .int v] (fun r E' => r.toInt = if -720 ≤ v.toInt ∧ v.toInt ≤ 720 then 0 else -1) := by
  refine CtI.of (by decide) (Nat.le_of_ble_eq_true rfl) (fun X A C => ?_)
  obtain ⟨h68, h69, h70, h71, h72, h73, h74, h75, h76, h77, h78, h79, h80, h81, h82, h83, h84, h85, h86, h87, h88, h89, h90, h91, h92, h93, h94, h95, h96, h97⟩ := id hf
  refine v_sub (lv' := [(0, .ref (ad 68)), (1, .int v)]) [0, 1] rfl ?_
  refine v_iload_n C 1 dX9_zone_0 rfl rfl ?_
  refine v_sipush (v := (-720)) C dX9_zone_1 (by decide) ?_
  refine v_sipush (v := 720) C dX9_zone_4 (by decide) ?_
  refine v_cSp C dX9_zone_7 lX9_131 mX9_within (d_within l G n ad _ v (-720) 720) ⟨by decide, by decide⟩ rfl (Nat.le_of_ble_eq_true rfl) ⟨Nat.zero_le _, Nat.zero_le _⟩ (fun r1 hp2 => ?_)
  rw [(show ((-720) : Int32).toInt = (-720) by decide)] at hp2
  rw [(show (720 : Int32).toInt = 720 by decide)] at hp2
  rcases hp2 with ⟨rfl, hp2⟩ | ⟨rfl, hp2⟩
  · refine b_if_ne C 15 dX9_zone_10 (by decide) (show (1 : Int32).toInt = 1 by decide) (fun c3 => ?_) (fun c3 => absurd c3 (by decide))
    refine v_aload_n C 0 dX9_zone_15 rfl rfl ?_
    refine v_geti (v := 0) C 68 dX9_zone_16 fX9_135 (by omega) h68 rfl rfl ?_
    refine v_iconst (v := 5) C dX9_zone_19 (by decide) ?_
    refine b_icmp_ne C 26 dX9_zone_20 (by decide) (show (0 : Int32).toInt = 0 by decide) (show (5 : Int32).toInt = 5 by decide) (fun c4 => ?_) (fun c4 => absurd c4 (by decide))
    refine v_aload_n C 0 dX9_zone_26 rfl rfl ?_
    refine v_getr C 68 dX9_zone_27 fX9_29 (by omega) h68 rfl rfl ?_
    refine v_aload_n C 0 dX9_zone_30 rfl rfl ?_
    refine v_geti (v := 0) C 68 dX9_zone_31 fX9_135 (by omega) h68 rfl rfl ?_
    refine v_iload_n C 1 dX9_zone_34 rfl rfl ?_
    refine v_ast C 71 dX9_zone_35 (by omega) h71 (ti_in (show (0 : Int32).toInt = 0 by decide) (by omega) (by omega)) (fun E5 hE5_71 oE5 => ?_)
    rw [ti_cl (show (0 : Int32).toInt = 0 by decide), show Int.toNat 0 = 0 by omega] at hE5_71
    have hE5_68 := (oE5 68 (by decide)).trans h68
    have hE5_79 := (oE5 79 (by decide)).trans h79
    refine v_aload_n C 0 dX9_zone_36 rfl rfl ?_
    refine v_dup C dX9_zone_37 rfl ?_
    refine v_geti (v := 0) C 68 dX9_zone_38 fX9_135 (by omega) hE5_68 rfl rfl ?_
    refine v_iconst (v := 1) C dX9_zone_41 (by decide) ?_
    refine v_iadd C dX9_zone_42 ?_
    refine v_eq (y := 1) (by decide) ?_
    refine v_puti C 68 dX9_zone_43 fX9_135 (by omega) hE5_68 rfl rfl rfl rfl (fun E6 hE6_68 oE6 => ?_)
    have hE6_71 := (oE6 71 (by decide)).trans hE5_71
    have hE6_79 := (oE6 79 (by decide)).trans hE5_79
    refine v_aload_n C 0 dX9_zone_46 rfl rfl ?_
    refine v_cVv C dX9_zone_47 lX9_159 mX9_forget 68 (by omega) hE6_68 (by decide) rfl (d_forget l G n ad _ hn hE6_68 hE6_79) ⟨by decide, by decide⟩ rfl (Nat.le_of_ble_eq_true rfl) ⟨Nat.zero_le _, Nat.zero_le _⟩ (fun E7 hq8 => ?_)
    obtain ⟨fz2, hz2, hOz⟩ := hq8
    have hE7_68 := (hOz 68 (by decide)).trans hE6_68
    have hE7_71 := (hOz 71 (by decide)).trans hE6_71
    refine v_aload_n C 0 dX9_zone_50 rfl rfl ?_
    refine v_geti (v := 1) C 68 dX9_zone_51 fX9_135 (by omega) hE7_68 rfl rfl ?_
    refine v_iconst (v := 1) C dX9_zone_54 (by decide) ?_
    refine v_isub C dX9_zone_55 ?_
    refine v_eq (y := 0) (by decide) ?_
    exact v_ret C dX9_zone_56 rfl rfl (show _ by rw [show (0 : Int32).toInt = 0 by decide]; (repeat first | rw [if_pos (by omega)] | rw [if_neg (by omega)]); try omega)
  · refine b_if_ne C 15 dX9_zone_10 (by decide) (show (0 : Int32).toInt = 0 by decide) (fun c9 => absurd c9 (by decide)) (fun c9 => ?_)
    refine v_iconst (v := (-1)) C dX9_zone_13 (by decide) ?_
    exact v_ret C dX9_zone_14 rfl rfl (show _ by rw [show ((-1) : Int32).toInt = (-1) by decide]; (repeat first | rw [if_pos (by omega)] | rw [if_neg (by omega)]); try omega)

set_option maxRecDepth 20000 in
theorem m_clear (l : Launch) (G : Gl) (n : Nat) (ad : Nat → Nat) (E : Nat → va_E) (hn : 98 ≤ n) (hf : FreshM G ad E) (p : Int32)  : CtI l G yX9_clear cX9_clear 3 .int 2 42 n ad E [.ref (ad 68), .int p] (fun r E' => r.toInt = if okPr p.toInt then 0 else -1) := by
  refine CtI.of (by decide) (Nat.le_of_ble_eq_true rfl) (fun X A C => ?_)
  obtain ⟨h68, h69, h70, h71, h72, h73, h74, h75, h76, h77, h78, h79, h80, h81, h82, h83, h84, h85, h86, h87, h88, h89, h90, h91, h92, h93, h94, h95, h96, h97⟩ := id hf
  refine v_sub (lv' := [(0, .ref (ad 68)), (1, .int p)]) [0, 1] rfl ?_
  refine v_iload_n C 1 dX9_clear_0 rfl rfl ?_
  refine v_cSp C dX9_clear_1 lX9_194 mX9_isProgram (d_isProgram l G n ad _ p) ⟨by decide, by decide⟩ rfl (Nat.le_of_ble_eq_true rfl) ⟨Nat.zero_le _, Nat.zero_le _⟩ (fun r1 hp2 => ?_)
  unfold okPr at hp2
  rcases hp2 with ⟨rfl, hp2⟩ | ⟨rfl, hp2⟩
  · refine b_if_ne C 9 dX9_clear_4 (by decide) (show (1 : Int32).toInt = 1 by decide) (fun c3 => ?_) (fun c3 => absurd c3 (by decide))
    refine v_aload_n C 0 dX9_clear_9 rfl rfl ?_
    refine v_getr C 68 dX9_clear_10 fX9_85 (by omega) h68 rfl rfl ?_
    refine v_iload_n C 1 dX9_clear_13 rfl rfl ?_
    refine v_ald (v := 0) C 88 dX9_clear_14 (by omega) h88 (ti_in (rfl : Int32.toInt p = _) (by omega) (by omega)) (rfl) ?_
    refine v_istore_n (lv' := [(0, .ref (ad 68)), (1, .int p), (2, .int 0)]) C [1, 2, 0] dX9_clear_15 rfl (by decide) rfl ?_
    refine v_aload_n C 0 dX9_clear_16 rfl rfl ?_
    refine v_getr C 68 dX9_clear_17 fX9_85 (by omega) h68 rfl rfl ?_
    refine v_iload_n C 1 dX9_clear_20 rfl rfl ?_
    refine v_iconst (v := 0) C dX9_clear_21 (by decide) ?_
    refine v_ast C 88 dX9_clear_22 (by omega) h88 (ti_in (rfl : Int32.toInt p = _) (by omega) (by omega)) (fun E4 hE4_88 oE4 => ?_)
    rw [ti_cl (rfl : Int32.toInt p = _)] at hE4_88
    have hE4_68 := (oE4 68 (by decide)).trans h68
    refine v_iload_n C 2 dX9_clear_23 rfl rfl ?_
    exact v_ret C dX9_clear_24 rfl rfl (show _ by rw [show (0 : Int32).toInt = 0 by decide]; unfold okPr; (repeat first | rw [if_pos (by omega)] | rw [if_neg (by omega)]); try omega)
  · refine b_if_ne C 9 dX9_clear_4 (by decide) (show (0 : Int32).toInt = 0 by decide) (fun c5 => absurd c5 (by decide)) (fun c5 => ?_)
    refine v_iconst (v := (-1)) C dX9_clear_7 (by decide) ?_
    exact v_ret C dX9_clear_8 rfl rfl (show _ by rw [show ((-1) : Int32).toInt = (-1) by decide]; unfold okPr; (repeat first | rw [if_pos (by omega)] | rw [if_neg (by omega)]); try omega)

set_option maxRecDepth 20000 in
theorem m_mended (l : Launch) (G : Gl) (n : Nat) (ad : Nat → Nat) (E : Nat → va_E) (hn : 98 ≤ n) (hf : FreshM G ad E) (i : Int32) (w : Int32)  : CtI l G yX9_mended cX9_mended 3 .int 1 22 n ad E [.ref (ad 68), .int i, .int w] (fun r E' => r.toInt = -2000000000) := by
  refine CtI.of (by decide) (Nat.le_of_ble_eq_true rfl) (fun X A C => ?_)
  obtain ⟨h68, h69, h70, h71, h72, h73, h74, h75, h76, h77, h78, h79, h80, h81, h82, h83, h84, h85, h86, h87, h88, h89, h90, h91, h92, h93, h94, h95, h96, h97⟩ := id hf
  refine v_sub (lv' := [(0, .ref (ad 68)), (1, .int i), (2, .int w)]) [0, 1, 2] rfl ?_
  refine v_iload_n C 1 dX9_mended_0 rfl rfl ?_
  refine b_if_lt C 21 dX9_mended_1 (by decide) (rfl : Int32.toInt i = _) (fun c1 => ?_) (fun c1 => ?_)
  · refine v_ldc C dX9_mended_21 kX9_252 ?_
    exact v_ret C dX9_mended_23 rfl rfl (show _ by rw [show ((-2000000000) : Int32).toInt = (-2000000000) by decide]; (repeat first | rw [if_pos (by omega)] | rw [if_neg (by omega)]); try omega)
  · refine v_iload_n C 1 dX9_mended_4 rfl rfl ?_
    refine v_aload_n C 0 dX9_mended_5 rfl rfl ?_
    refine v_geti (v := 0) C 68 dX9_mended_6 fX9_289 (by omega) h68 rfl rfl ?_
    refine b_icmp_ge C 21 dX9_mended_9 (by decide) (rfl : Int32.toInt i = _) (show (0 : Int32).toInt = 0 by decide) (fun c2 => ?_) (fun c2 => by exfalso; omega)
    refine v_ldc C dX9_mended_21 kX9_252 ?_
    exact v_ret C dX9_mended_23 rfl rfl (show _ by rw [show ((-2000000000) : Int32).toInt = (-2000000000) by decide]; (repeat first | rw [if_pos (by omega)] | rw [if_neg (by omega)]); try omega)

set_option maxRecDepth 20000 in
theorem d_mayStand0 (l : Launch) (G : Gl) (n : Nat) (ad : Nat → Nat) (E : Nat → va_E) (hn : 98 ≤ n) (hf : FreshM G ad E) (k : Int32) (x : Int32) (y : Int32)  : CtI l G yX9_mayStand cX9_mayStand 4 .boolean 1 22 n ad E [.ref (ad 68), .int k, .int x, .int y] (fun r E' => ((r = 1 ∧ (okLine k.toInt x.toInt y.toInt)) ∨ (r = 0 ∧ ¬ (okLine k.toInt x.toInt y.toInt))) ∧ E = E') := by
  refine CtI.of (by decide) (Nat.le_of_ble_eq_true rfl) (fun X A C => ?_)
  obtain ⟨h68, h69, h70, h71, h72, h73, h74, h75, h76, h77, h78, h79, h80, h81, h82, h83, h84, h85, h86, h87, h88, h89, h90, h91, h92, h93, h94, h95, h96, h97⟩ := id hf
  refine v_sub (lv' := [(0, .ref (ad 68)), (1, .int k), (2, .int x), (3, .int y)]) [0, 1, 2, 3] rfl ?_
  refine v_iload_n C 1 dX9_mayStand_0 rfl rfl ?_
  have q1v : Int32.toInt k = k.toInt := (rfl : Int32.toInt k = _)
  rcases (show k.toInt = 1 ∨ k.toInt = 2 ∨ k.toInt = 3 ∨ k.toInt = 4 ∨ k.toInt = 5 ∨ k.toInt = 6 ∨ k.toInt = 7 ∨ (k.toInt < 1 ∨ 7 < k.toInt) by omega) with q1 | q1 | q1 | q1 | q1 | q1 | q1 | q1
  · refine v_tableIn (off := 43) C 44 dX9_mayStand_1 (by omega) (by omega) (by rw [q1v, q1]; rfl) (by decide) ?_
    refine v_aload_n C 0 dX9_mayStand_44 rfl rfl ?_
    refine v_iload_n C 2 dX9_mayStand_45 rfl rfl ?_
    refine v_cVp C dX9_mayStand_46 lX9_162 mX9_isZone 68 (by omega) h68 (by decide) rfl (d_isZone0 l G n ad _ hn hf x) ⟨by decide, by decide⟩ rfl (Nat.le_of_ble_eq_true rfl) ⟨Nat.zero_le _, Nat.zero_le _⟩ (fun r2 hp3 => ?_)
    subst hp3
    refine b_if_eq C 60 dX9_mayStand_49 (by decide) (show (0 : Int32).toInt = 0 by decide) (fun c4 => ?_) (fun c4 => absurd c4 (by decide))
    refine v_iconst (v := 0) C dX9_mayStand_60 (by decide) ?_
    exact v_ret C dX9_mayStand_61 rfl rfl ⟨Or.inr ⟨rfl, by unfold okLine; omega⟩, rfl⟩
  · refine v_tableIn (off := 177) C 178 dX9_mayStand_1 (by omega) (by omega) (by rw [q1v, q1]; rfl) (by decide) ?_
    refine v_iload_n C 1 dX9_mayStand_178 rfl rfl ?_
    refine v_iconst (v := 0) C dX9_mayStand_179 (by decide) ?_
    refine v_bipush (v := 11) C dX9_mayStand_180 (by decide) ?_
    refine v_cSp C dX9_mayStand_182 lX9_131 mX9_within (d_within l G n ad _ k 0 11) ⟨by decide, by decide⟩ rfl (Nat.le_of_ble_eq_true rfl) ⟨Nat.zero_le _, Nat.zero_le _⟩ (fun r5 hp6 => ?_)
    rw [(show (0 : Int32).toInt = 0 by decide)] at hp6
    rw [(show (11 : Int32).toInt = 11 by decide)] at hp6
    rcases hp6 with ⟨rfl, hp6⟩ | ⟨rfl, hp6⟩
    · refine b_if_eq C 200 dX9_mayStand_185 (by decide) (show (1 : Int32).toInt = 1 by decide) (fun c7 => absurd c7 (by decide)) (fun c7 => ?_)
      refine v_iload_n C 2 dX9_mayStand_188 rfl rfl ?_
      refine b_if_ne C 200 dX9_mayStand_189 (by decide) (rfl : Int32.toInt x = _) (fun c8 => ?_) (fun c8 => ?_)
      · refine v_iconst (v := 0) C dX9_mayStand_200 (by decide) ?_
        exact v_ret C dX9_mayStand_201 rfl rfl ⟨Or.inr ⟨rfl, by unfold okLine; omega⟩, rfl⟩
      · refine v_iload_n C 3 dX9_mayStand_192 rfl rfl ?_
        refine b_if_ne C 200 dX9_mayStand_193 (by decide) (rfl : Int32.toInt y = _) (fun c9 => ?_) (fun c9 => ?_)
        · refine v_iconst (v := 0) C dX9_mayStand_200 (by decide) ?_
          exact v_ret C dX9_mayStand_201 rfl rfl ⟨Or.inr ⟨rfl, by unfold okLine; omega⟩, rfl⟩
        · refine v_iconst (v := 1) C dX9_mayStand_196 (by decide) ?_
          refine v_goto C 201 dX9_mayStand_197 (by decide) ?_
          exact v_ret C dX9_mayStand_201 rfl rfl ⟨Or.inl ⟨rfl, by unfold okLine; omega⟩, rfl⟩
    · refine b_if_eq C 200 dX9_mayStand_185 (by decide) (show (0 : Int32).toInt = 0 by decide) (fun c10 => ?_) (fun c10 => absurd c10 (by decide))
      refine v_iconst (v := 0) C dX9_mayStand_200 (by decide) ?_
      exact v_ret C dX9_mayStand_201 rfl rfl ⟨Or.inr ⟨rfl, by unfold okLine; omega⟩, rfl⟩
  · refine v_tableIn (off := 61) C 62 dX9_mayStand_1 (by omega) (by omega) (by rw [q1v, q1]; rfl) (by decide) ?_
    refine v_iload_n C 2 dX9_mayStand_62 rfl rfl ?_
    refine v_iconst (v := 0) C dX9_mayStand_63 (by decide) ?_
    refine v_sipush (v := 1439) C dX9_mayStand_64 (by decide) ?_
    refine v_cSp C dX9_mayStand_67 lX9_131 mX9_within (d_within l G n ad _ x 0 1439) ⟨by decide, by decide⟩ rfl (Nat.le_of_ble_eq_true rfl) ⟨Nat.zero_le _, Nat.zero_le _⟩ (fun r11 hp12 => ?_)
    rw [(show (0 : Int32).toInt = 0 by decide)] at hp12
    rw [(show (1439 : Int32).toInt = 1439 by decide)] at hp12
    rcases hp12 with ⟨rfl, hp12⟩ | ⟨rfl, hp12⟩
    · refine b_if_eq C 81 dX9_mayStand_70 (by decide) (show (1 : Int32).toInt = 1 by decide) (fun c13 => absurd c13 (by decide)) (fun c13 => ?_)
      refine v_iload_n C 3 dX9_mayStand_73 rfl rfl ?_
      refine b_if_ne C 81 dX9_mayStand_74 (by decide) (rfl : Int32.toInt y = _) (fun c14 => ?_) (fun c14 => ?_)
      · refine v_iconst (v := 0) C dX9_mayStand_81 (by decide) ?_
        exact v_ret C dX9_mayStand_82 rfl rfl ⟨Or.inr ⟨rfl, by unfold okLine; omega⟩, rfl⟩
      · refine v_iconst (v := 1) C dX9_mayStand_77 (by decide) ?_
        refine v_goto C 82 dX9_mayStand_78 (by decide) ?_
        exact v_ret C dX9_mayStand_82 rfl rfl ⟨Or.inl ⟨rfl, by unfold okLine; omega⟩, rfl⟩
    · refine b_if_eq C 81 dX9_mayStand_70 (by decide) (show (0 : Int32).toInt = 0 by decide) (fun c15 => ?_) (fun c15 => absurd c15 (by decide))
      refine v_iconst (v := 0) C dX9_mayStand_81 (by decide) ?_
      exact v_ret C dX9_mayStand_82 rfl rfl ⟨Or.inr ⟨rfl, by unfold okLine; omega⟩, rfl⟩
  · refine v_tableIn (off := 82) C 83 dX9_mayStand_1 (by omega) (by omega) (by rw [q1v, q1]; rfl) (by decide) ?_
    refine v_aload_n C 0 dX9_mayStand_83 rfl rfl ?_
    refine v_iload_n C 2 dX9_mayStand_84 rfl rfl ?_
    refine v_cVp C dX9_mayStand_85 lX9_162 mX9_isZone 68 (by omega) h68 (by decide) rfl (d_isZone0 l G n ad _ hn hf x) ⟨by decide, by decide⟩ rfl (Nat.le_of_ble_eq_true rfl) ⟨Nat.zero_le _, Nat.zero_le _⟩ (fun r16 hp17 => ?_)
    subst hp17
    refine b_if_eq C 104 dX9_mayStand_88 (by decide) (show (0 : Int32).toInt = 0 by decide) (fun c18 => ?_) (fun c18 => absurd c18 (by decide))
    refine v_iconst (v := 0) C dX9_mayStand_104 (by decide) ?_
    exact v_ret C dX9_mayStand_105 rfl rfl ⟨Or.inr ⟨rfl, by unfold okLine; omega⟩, rfl⟩
  · refine v_tableIn (off := 105) C 106 dX9_mayStand_1 (by omega) (by omega) (by rw [q1v, q1]; rfl) (by decide) ?_
    refine v_iload_n C 2 dX9_mayStand_106 rfl rfl ?_
    refine v_sipush (v := (-9999)) C dX9_mayStand_107 (by decide) ?_
    refine v_sipush (v := 9999) C dX9_mayStand_110 (by decide) ?_
    refine v_cSp C dX9_mayStand_113 lX9_131 mX9_within (d_within l G n ad _ x (-9999) 9999) ⟨by decide, by decide⟩ rfl (Nat.le_of_ble_eq_true rfl) ⟨Nat.zero_le _, Nat.zero_le _⟩ (fun r19 hp20 => ?_)
    rw [(show ((-9999) : Int32).toInt = (-9999) by decide)] at hp20
    rw [(show (9999 : Int32).toInt = 9999 by decide)] at hp20
    rcases hp20 with ⟨rfl, hp20⟩ | ⟨rfl, hp20⟩
    · refine b_if_eq C 127 dX9_mayStand_116 (by decide) (show (1 : Int32).toInt = 1 by decide) (fun c21 => absurd c21 (by decide)) (fun c21 => ?_)
      refine v_iload_n C 3 dX9_mayStand_119 rfl rfl ?_
      refine b_if_ne C 127 dX9_mayStand_120 (by decide) (rfl : Int32.toInt y = _) (fun c22 => ?_) (fun c22 => ?_)
      · refine v_iconst (v := 0) C dX9_mayStand_127 (by decide) ?_
        exact v_ret C dX9_mayStand_128 rfl rfl ⟨Or.inr ⟨rfl, by unfold okLine; omega⟩, rfl⟩
      · refine v_iconst (v := 1) C dX9_mayStand_123 (by decide) ?_
        refine v_goto C 128 dX9_mayStand_124 (by decide) ?_
        exact v_ret C dX9_mayStand_128 rfl rfl ⟨Or.inl ⟨rfl, by unfold okLine; omega⟩, rfl⟩
    · refine b_if_eq C 127 dX9_mayStand_116 (by decide) (show (0 : Int32).toInt = 0 by decide) (fun c23 => ?_) (fun c23 => absurd c23 (by decide))
      refine v_iconst (v := 0) C dX9_mayStand_127 (by decide) ?_
      exact v_ret C dX9_mayStand_128 rfl rfl ⟨Or.inr ⟨rfl, by unfold okLine; omega⟩, rfl⟩
  · refine v_tableIn (off := 128) C 129 dX9_mayStand_1 (by omega) (by omega) (by rw [q1v, q1]; rfl) (by decide) ?_
    refine v_iload_n C 2 dX9_mayStand_129 rfl rfl ?_
    refine v_sipush (v := (-999)) C dX9_mayStand_130 (by decide) ?_
    refine v_sipush (v := 999) C dX9_mayStand_133 (by decide) ?_
    refine v_cSp C dX9_mayStand_136 lX9_131 mX9_within (d_within l G n ad _ x (-999) 999) ⟨by decide, by decide⟩ rfl (Nat.le_of_ble_eq_true rfl) ⟨Nat.zero_le _, Nat.zero_le _⟩ (fun r24 hp25 => ?_)
    rw [(show ((-999) : Int32).toInt = (-999) by decide)] at hp25
    rw [(show (999 : Int32).toInt = 999 by decide)] at hp25
    rcases hp25 with ⟨rfl, hp25⟩ | ⟨rfl, hp25⟩
    · refine b_if_eq C 150 dX9_mayStand_139 (by decide) (show (1 : Int32).toInt = 1 by decide) (fun c26 => absurd c26 (by decide)) (fun c26 => ?_)
      refine v_iload_n C 3 dX9_mayStand_142 rfl rfl ?_
      refine b_if_ne C 150 dX9_mayStand_143 (by decide) (rfl : Int32.toInt y = _) (fun c27 => ?_) (fun c27 => ?_)
      · refine v_iconst (v := 0) C dX9_mayStand_150 (by decide) ?_
        exact v_ret C dX9_mayStand_151 rfl rfl ⟨Or.inr ⟨rfl, by unfold okLine; omega⟩, rfl⟩
      · refine v_iconst (v := 1) C dX9_mayStand_146 (by decide) ?_
        refine v_goto C 151 dX9_mayStand_147 (by decide) ?_
        exact v_ret C dX9_mayStand_151 rfl rfl ⟨Or.inl ⟨rfl, by unfold okLine; omega⟩, rfl⟩
    · refine b_if_eq C 150 dX9_mayStand_139 (by decide) (show (0 : Int32).toInt = 0 by decide) (fun c28 => ?_) (fun c28 => absurd c28 (by decide))
      refine v_iconst (v := 0) C dX9_mayStand_150 (by decide) ?_
      exact v_ret C dX9_mayStand_151 rfl rfl ⟨Or.inr ⟨rfl, by unfold okLine; omega⟩, rfl⟩
  · refine v_tableIn (off := 151) C 152 dX9_mayStand_1 (by omega) (by omega) (by rw [q1v, q1]; rfl) (by decide) ?_
    refine v_iload_n C 2 dX9_mayStand_152 rfl rfl ?_
    refine v_bipush (v := (-99)) C dX9_mayStand_153 (by decide) ?_
    refine v_bipush (v := 99) C dX9_mayStand_155 (by decide) ?_
    refine v_cSp C dX9_mayStand_157 lX9_131 mX9_within (d_within l G n ad _ x (-99) 99) ⟨by decide, by decide⟩ rfl (Nat.le_of_ble_eq_true rfl) ⟨Nat.zero_le _, Nat.zero_le _⟩ (fun r29 hp30 => ?_)
    rw [(show ((-99) : Int32).toInt = (-99) by decide)] at hp30
    rw [(show (99 : Int32).toInt = 99 by decide)] at hp30
    rcases hp30 with ⟨rfl, hp30⟩ | ⟨rfl, hp30⟩
    · refine b_if_eq C 176 dX9_mayStand_160 (by decide) (show (1 : Int32).toInt = 1 by decide) (fun c31 => absurd c31 (by decide)) (fun c31 => ?_)
      refine v_iload_n C 3 dX9_mayStand_163 rfl rfl ?_
      refine v_iconst (v := 0) C dX9_mayStand_164 (by decide) ?_
      refine v_iconst (v := 2) C dX9_mayStand_165 (by decide) ?_
      refine v_cSp C dX9_mayStand_166 lX9_131 mX9_within (d_within l G n ad _ y 0 2) ⟨by decide, by decide⟩ rfl (Nat.le_of_ble_eq_true rfl) ⟨Nat.zero_le _, Nat.zero_le _⟩ (fun r32 hp33 => ?_)
      rw [(show (0 : Int32).toInt = 0 by decide)] at hp33
      rw [(show (2 : Int32).toInt = 2 by decide)] at hp33
      rcases hp33 with ⟨rfl, hp33⟩ | ⟨rfl, hp33⟩
      · refine b_if_eq C 176 dX9_mayStand_169 (by decide) (show (1 : Int32).toInt = 1 by decide) (fun c34 => absurd c34 (by decide)) (fun c34 => ?_)
        refine v_iconst (v := 1) C dX9_mayStand_172 (by decide) ?_
        refine v_goto C 177 dX9_mayStand_173 (by decide) ?_
        exact v_ret C dX9_mayStand_177 rfl rfl ⟨Or.inl ⟨rfl, by unfold okLine; omega⟩, rfl⟩
      · refine b_if_eq C 176 dX9_mayStand_169 (by decide) (show (0 : Int32).toInt = 0 by decide) (fun c35 => ?_) (fun c35 => absurd c35 (by decide))
        refine v_iconst (v := 0) C dX9_mayStand_176 (by decide) ?_
        exact v_ret C dX9_mayStand_177 rfl rfl ⟨Or.inr ⟨rfl, by unfold okLine; omega⟩, rfl⟩
    · refine b_if_eq C 176 dX9_mayStand_160 (by decide) (show (0 : Int32).toInt = 0 by decide) (fun c36 => ?_) (fun c36 => absurd c36 (by decide))
      refine v_iconst (v := 0) C dX9_mayStand_176 (by decide) ?_
      exact v_ret C dX9_mayStand_177 rfl rfl ⟨Or.inr ⟨rfl, by unfold okLine; omega⟩, rfl⟩
  · refine v_tableOut C 178 dX9_mayStand_1 (by omega) (by decide) ?_
    refine v_iload_n C 1 dX9_mayStand_178 rfl rfl ?_
    refine v_iconst (v := 0) C dX9_mayStand_179 (by decide) ?_
    refine v_bipush (v := 11) C dX9_mayStand_180 (by decide) ?_
    refine v_cSp C dX9_mayStand_182 lX9_131 mX9_within (d_within l G n ad _ k 0 11) ⟨by decide, by decide⟩ rfl (Nat.le_of_ble_eq_true rfl) ⟨Nat.zero_le _, Nat.zero_le _⟩ (fun r37 hp38 => ?_)
    rw [(show (0 : Int32).toInt = 0 by decide)] at hp38
    rw [(show (11 : Int32).toInt = 11 by decide)] at hp38
    rcases hp38 with ⟨rfl, hp38⟩ | ⟨rfl, hp38⟩
    · refine b_if_eq C 200 dX9_mayStand_185 (by decide) (show (1 : Int32).toInt = 1 by decide) (fun c39 => absurd c39 (by decide)) (fun c39 => ?_)
      refine v_iload_n C 2 dX9_mayStand_188 rfl rfl ?_
      refine b_if_ne C 200 dX9_mayStand_189 (by decide) (rfl : Int32.toInt x = _) (fun c40 => ?_) (fun c40 => ?_)
      · refine v_iconst (v := 0) C dX9_mayStand_200 (by decide) ?_
        exact v_ret C dX9_mayStand_201 rfl rfl ⟨Or.inr ⟨rfl, by unfold okLine; omega⟩, rfl⟩
      · refine v_iload_n C 3 dX9_mayStand_192 rfl rfl ?_
        refine b_if_ne C 200 dX9_mayStand_193 (by decide) (rfl : Int32.toInt y = _) (fun c41 => ?_) (fun c41 => ?_)
        · refine v_iconst (v := 0) C dX9_mayStand_200 (by decide) ?_
          exact v_ret C dX9_mayStand_201 rfl rfl ⟨Or.inr ⟨rfl, by unfold okLine; omega⟩, rfl⟩
        · refine v_iconst (v := 1) C dX9_mayStand_196 (by decide) ?_
          refine v_goto C 201 dX9_mayStand_197 (by decide) ?_
          exact v_ret C dX9_mayStand_201 rfl rfl ⟨Or.inl ⟨rfl, by unfold okLine; omega⟩, rfl⟩
    · refine b_if_eq C 200 dX9_mayStand_185 (by decide) (show (0 : Int32).toInt = 0 by decide) (fun c42 => ?_) (fun c42 => absurd c42 (by decide))
      refine v_iconst (v := 0) C dX9_mayStand_200 (by decide) ?_
      exact v_ret C dX9_mayStand_201 rfl rfl ⟨Or.inr ⟨rfl, by unfold okLine; omega⟩, rfl⟩

set_option maxRecDepth 20000 in
theorem m_line (l : Launch) (G : Gl) (n : Nat) (ad : Nat → Nat) (E : Nat → va_E) (hn : 98 ≤ n) (hf : FreshM G ad E) (p : Int32) (k : Int32) (x : Int32) (y : Int32)  : CtI l G yX9_line cX9_line 6 .int 3 64 n ad E [.ref (ad 68), .int p, .int k, .int x, .int y] (fun r E' => r.toInt = if okPr p.toInt ∧ okLine k.toInt x.toInt y.toInt then 0 else -1) := by
  refine CtI.of (by decide) (Nat.le_of_ble_eq_true rfl) (fun X A C => ?_)
  obtain ⟨h68, h69, h70, h71, h72, h73, h74, h75, h76, h77, h78, h79, h80, h81, h82, h83, h84, h85, h86, h87, h88, h89, h90, h91, h92, h93, h94, h95, h96, h97⟩ := id hf
  refine v_sub (lv' := [(0, .ref (ad 68)), (1, .int p), (2, .int k), (3, .int x), (4, .int y)]) [0, 1, 2, 3, 4] rfl ?_
  refine v_iload_n C 1 dX9_line_0 rfl rfl ?_
  refine v_cSp C dX9_line_1 lX9_194 mX9_isProgram (d_isProgram l G n ad _ p) ⟨by decide, by decide⟩ rfl (Nat.le_of_ble_eq_true rfl) ⟨Nat.zero_le _, Nat.zero_le _⟩ (fun r1 hp2 => ?_)
  unfold okPr at hp2
  rcases hp2 with ⟨rfl, hp2⟩ | ⟨rfl, hp2⟩
  · refine b_if_eq C 18 dX9_line_4 (by decide) (show (1 : Int32).toInt = 1 by decide) (fun c3 => absurd c3 (by decide)) (fun c3 => ?_)
    refine v_aload_n C 0 dX9_line_7 rfl rfl ?_
    refine v_iload_n C 2 dX9_line_8 rfl rfl ?_
    refine v_iload_n C 3 dX9_line_9 rfl rfl ?_
    refine v_iload C 4 dX9_line_10 rfl ?_
    refine v_cVp C dX9_line_12 lX9_197 mX9_mayStand 68 (by omega) h68 (by decide) rfl (d_mayStand0 l G n ad _ hn hf k x y) ⟨by decide, by decide⟩ rfl (Nat.le_of_ble_eq_true rfl) ⟨Nat.zero_le _, Nat.zero_le _⟩ (fun r4 hp5 => ?_)
    rcases hp5 with ⟨rfl, hp5⟩ | ⟨rfl, hp5⟩
    · refine b_if_ne C 20 dX9_line_15 (by decide) (show (1 : Int32).toInt = 1 by decide) (fun c6 => ?_) (fun c6 => absurd c6 (by decide))
      refine v_aload_n C 0 dX9_line_20 rfl rfl ?_
      refine v_getr C 68 dX9_line_21 fX9_85 (by omega) h68 rfl rfl ?_
      refine v_iload_n C 1 dX9_line_24 rfl rfl ?_
      refine v_ald (v := 0) C 88 dX9_line_25 (by omega) h88 (ti_in (rfl : Int32.toInt p = _) (by omega) (by omega)) (rfl) ?_
      refine v_bipush (v := 10) C dX9_line_26 (by decide) ?_
      refine b_icmp_ne C 34 dX9_line_28 (by decide) (show (0 : Int32).toInt = 0 by decide) (show (10 : Int32).toInt = 10 by decide) (fun c7 => ?_) (fun c7 => absurd c7 (by decide))
      refine v_bipush (v := 10) C dX9_line_34 (by decide) ?_
      refine v_iload_n C 1 dX9_line_36 rfl rfl ?_
      refine v_imul C dX9_line_37 ?_
      refine v_top (fun x8 ex8 => ?_)
      have hx8 : x8.toInt = (10 * p.toInt) := by rw [ex8]; exact ti_mul (show (10 : Int32).toInt = 10 by decide) (rfl : Int32.toInt p = _) (by omega) (by omega)
      refine v_aload_n C 0 dX9_line_38 rfl rfl ?_
      refine v_getr C 68 dX9_line_39 fX9_85 (by omega) h68 rfl rfl ?_
      refine v_iload_n C 1 dX9_line_42 rfl rfl ?_
      refine v_ald (v := 0) C 88 dX9_line_43 (by omega) h88 (ti_in (rfl : Int32.toInt p = _) (by omega) (by omega)) (rfl) ?_
      refine v_iadd C dX9_line_44 ?_
      refine v_top (fun x9 ex9 => ?_)
      have hx9 : x9.toInt = ((10 * p.toInt) + 0) := by rw [ex9]; exact ti_add hx8 (show (0 : Int32).toInt = 0 by decide) (by omega) (by omega)
      refine v_istore (lv' := [(0, .ref (ad 68)), (1, .int p), (2, .int k), (3, .int x), (4, .int y), (5, .int x9)]) C [1, 2, 3, 4, 5, 0] dX9_line_45 (by decide) rfl ?_
      refine v_aload_n C 0 dX9_line_47 rfl rfl ?_
      refine v_getr C 68 dX9_line_48 fX9_76 (by omega) h68 rfl rfl ?_
      refine v_iload C 5 dX9_line_51 rfl ?_
      refine v_iload_n C 2 dX9_line_53 rfl rfl ?_
      refine v_ast C 85 dX9_line_54 (by omega) h85 (ti_in hx9 (by omega) (by omega)) (fun E10 hE10_85 oE10 => ?_)
      rw [ti_cl hx9] at hE10_85
      have hE10_68 := (oE10 68 (by decide)).trans h68
      have hE10_86 := (oE10 86 (by decide)).trans h86
      have hE10_87 := (oE10 87 (by decide)).trans h87
      have hE10_88 := (oE10 88 (by decide)).trans h88
      refine v_aload_n C 0 dX9_line_55 rfl rfl ?_
      refine v_getr C 68 dX9_line_56 fX9_79 (by omega) hE10_68 rfl rfl ?_
      refine v_iload C 5 dX9_line_59 rfl ?_
      refine v_iload_n C 3 dX9_line_61 rfl rfl ?_
      refine v_ast C 86 dX9_line_62 (by omega) hE10_86 (ti_in hx9 (by omega) (by omega)) (fun E11 hE11_86 oE11 => ?_)
      rw [ti_cl hx9] at hE11_86
      have hE11_68 := (oE11 68 (by decide)).trans hE10_68
      have hE11_85 := (oE11 85 (by decide)).trans hE10_85
      have hE11_87 := (oE11 87 (by decide)).trans hE10_87
      have hE11_88 := (oE11 88 (by decide)).trans hE10_88
      refine v_aload_n C 0 dX9_line_63 rfl rfl ?_
      refine v_getr C 68 dX9_line_64 fX9_82 (by omega) hE11_68 rfl rfl ?_
      refine v_iload C 5 dX9_line_67 rfl ?_
      refine v_iload C 4 dX9_line_69 rfl ?_
      refine v_ast C 87 dX9_line_71 (by omega) hE11_87 (ti_in hx9 (by omega) (by omega)) (fun E12 hE12_87 oE12 => ?_)
      rw [ti_cl hx9] at hE12_87
      have hE12_68 := (oE12 68 (by decide)).trans hE11_68
      have hE12_85 := (oE12 85 (by decide)).trans hE11_85
      have hE12_86 := (oE12 86 (by decide)).trans hE11_86
      have hE12_88 := (oE12 88 (by decide)).trans hE11_88
      refine v_aload_n C 0 dX9_line_72 rfl rfl ?_
      refine v_getr C 68 dX9_line_73 fX9_85 (by omega) hE12_68 rfl rfl ?_
      refine v_iload_n C 1 dX9_line_76 rfl rfl ?_
      refine v_dup2_11 C dX9_line_77 rfl rfl ?_
      refine v_ald (v := 0) C 88 dX9_line_78 (by omega) hE12_88 (ti_in (rfl : Int32.toInt p = _) (by omega) (by omega)) (rfl) ?_
      refine v_iconst (v := 1) C dX9_line_79 (by decide) ?_
      refine v_iadd C dX9_line_80 ?_
      refine v_eq (y := 1) (by decide) ?_
      refine v_ast C 88 dX9_line_81 (by omega) hE12_88 (ti_in (rfl : Int32.toInt p = _) (by omega) (by omega)) (fun E13 hE13_88 oE13 => ?_)
      rw [ti_cl (rfl : Int32.toInt p = _)] at hE13_88
      have hE13_68 := (oE13 68 (by decide)).trans hE12_68
      have hE13_85 := (oE13 85 (by decide)).trans hE12_85
      have hE13_86 := (oE13 86 (by decide)).trans hE12_86
      have hE13_87 := (oE13 87 (by decide)).trans hE12_87
      refine v_aload_n C 0 dX9_line_82 rfl rfl ?_
      refine v_getr C 68 dX9_line_83 fX9_85 (by omega) hE13_68 rfl rfl ?_
      refine v_iload_n C 1 dX9_line_86 rfl rfl ?_
      refine v_ald (v := 1) C 88 dX9_line_87 (by omega) hE13_88 (ti_in (rfl : Int32.toInt p = _) (by omega) (by omega)) (by rw [ti_cl (rfl : Int32.toInt p = _), pk_us]) ?_
      refine v_iconst (v := 1) C dX9_line_88 (by decide) ?_
      refine v_isub C dX9_line_89 ?_
      refine v_eq (y := 0) (by decide) ?_
      exact v_ret C dX9_line_90 rfl rfl (show _ by rw [show (0 : Int32).toInt = 0 by decide]; rw [if_pos ⟨by unfold okPr; omega, hp5⟩])
    · refine b_if_ne C 20 dX9_line_15 (by decide) (show (0 : Int32).toInt = 0 by decide) (fun c14 => absurd c14 (by decide)) (fun c14 => ?_)
      refine v_iconst (v := (-1)) C dX9_line_18 (by decide) ?_
      exact v_ret C dX9_line_19 rfl rfl (show _ by rw [show ((-1) : Int32).toInt = (-1) by decide]; rw [if_neg (fun h => hp5 h.2)])
  · refine b_if_eq C 18 dX9_line_4 (by decide) (show (0 : Int32).toInt = 0 by decide) (fun c15 => ?_) (fun c15 => absurd c15 (by decide))
    refine v_iconst (v := (-1)) C dX9_line_18 (by decide) ?_
    exact v_ret C dX9_line_19 rfl rfl (show _ by rw [show ((-1) : Int32).toInt = (-1) by decide]; rw [if_neg (fun h => by have h1 := h.1; unfold okPr at h1; omega)])

set_option maxRecDepth 20000 in
theorem d_take0 (l : Launch) (G : Gl) (n : Nat) (ad : Nat → Nat) (E : Nat → va_E) (hn : 98 ≤ n) {im : Nat → Int32} (h68 : E 68 = ob 9 (rX9 ad) im) (h88 : E 88 = aI G 6 (fun _ => 0)) (p : Int32) (hp : okPr p.toInt)  : CtV l G yX9_take cX9_take 3 0 0 n ad E [.ref (ad 68), .int p] (fun E' => E' 68 = ob 9 (rX9 ad) (va_up im 32 0) ∧ ∀ j, j ≠ 68 → E' j = E j) := by
  refine CtV.of (by decide) (Nat.le_of_ble_eq_true rfl) (fun X A C => ?_)
  refine v_sub (lv' := [(0, .ref (ad 68)), (1, .int p)]) [0, 1] rfl ?_
  unfold okPr at hp
  refine v_aload_n C 0 dX9_take_0 rfl rfl ?_
  refine v_aload_n C 0 dX9_take_1 rfl rfl ?_
  refine v_getr C 68 dX9_take_2 fX9_85 (by omega) h68 rfl rfl ?_
  refine v_iload_n C 1 dX9_take_5 rfl rfl ?_
  refine v_ald (v := 0) C 88 dX9_take_6 (by omega) h88 (ti_in (rfl : Int32.toInt p = _) (by omega) (by omega)) (rfl) ?_
  refine v_puti C 68 dX9_take_7 fX9_200 (by omega) h68 rfl rfl rfl rfl (fun E1 hE1_68 oE1 => ?_)
  have hE1_88 := (oE1 88 (by decide)).trans h88
  refine v_iconst (v := 0) C dX9_take_10 (by decide) ?_
  refine v_istore_n (lv' := [(0, .ref (ad 68)), (1, .int p), (2, .int 0)]) C [1, 2, 0] dX9_take_11 rfl (by decide) rfl ?_
  refine v_iload_n C 2 dX9_take_12 rfl rfl ?_
  refine v_aload_n C 0 dX9_take_13 rfl rfl ?_
  refine v_geti (v := 0) C 68 dX9_take_14 fX9_200 (by omega) hE1_68 rfl rfl ?_
  refine b_icmp_ge C 77 dX9_take_17 (by decide) (show (0 : Int32).toInt = 0 by decide) (show (0 : Int32).toInt = 0 by decide) (fun c2 => ?_) (fun c2 => absurd c2 (by decide))
  exact v_vret C dX9_take_77 rfl ⟨hE1_68, oE1⟩

set_option maxRecDepth 20000 in
theorem d_mixOf0 (l : Launch) (G : Gl) (n : Nat) (ad : Nat → Nat) (E : Nat → va_E) (hn : 98 ≤ n) {im : Nat → Int32} (h68 : E 68 = ob 9 (rX9 ad) im) (h32 : im 32 = 0)  : CtI l G yX9_mixOf cX9_mixOf 2 .int 0 0 n ad E [.ref (ad 68)] (fun r E' => r = 0 ∧ E' 68 = ob 9 (rX9 ad) (va_up im 35 0) ∧ ∀ j, j ≠ 68 → E' j = E j) := by
  refine CtI.of (by decide) (Nat.le_of_ble_eq_true rfl) (fun X A C => ?_)
  refine v_sub (lv' := [(0, .ref (ad 68))]) [0] rfl ?_
  refine v_aload_n C 0 dX9_mixOf_0 rfl rfl ?_
  refine v_iconst (v := 0) C dX9_mixOf_1 (by decide) ?_
  refine v_puti C 68 dX9_mixOf_2 fX9_203 (by omega) h68 rfl rfl rfl rfl (fun E1 hE1_68 oE1 => ?_)
  refine v_iconst (v := 0) C dX9_mixOf_5 (by decide) ?_
  refine v_istore_n (lv' := [(0, .ref (ad 68)), (1, .int 0)]) C [1, 0] dX9_mixOf_6 rfl (by decide) rfl ?_
  refine v_iload_n C 1 dX9_mixOf_7 rfl rfl ?_
  refine v_aload_n C 0 dX9_mixOf_8 rfl rfl ?_
  refine v_geti (v := 0) C 68 dX9_mixOf_9 fX9_200 (by omega) hE1_68 rfl h32 ?_
  refine b_icmp_ge C 36 dX9_mixOf_12 (by decide) (show (0 : Int32).toInt = 0 by decide) (show (0 : Int32).toInt = 0 by decide) (fun c2 => ?_) (fun c2 => absurd c2 (by decide))
  refine v_aload_n C 0 dX9_mixOf_36 rfl rfl ?_
  refine v_geti (v := 0) C 68 dX9_mixOf_37 fX9_203 (by omega) hE1_68 rfl rfl ?_
  refine v_iconst (v := 1) C dX9_mixOf_40 (by decide) ?_
  refine b_icmp_ne C 49 dX9_mixOf_41 (by decide) (show (0 : Int32).toInt = 0 by decide) (show (1 : Int32).toInt = 1 by decide) (fun c3 => ?_) (fun c3 => absurd c3 (by decide))
  refine v_aload_n C 0 dX9_mixOf_49 rfl rfl ?_
  refine v_geti (v := 0) C 68 dX9_mixOf_50 fX9_200 (by omega) hE1_68 rfl h32 ?_
  exact v_ret C dX9_mixOf_53 rfl rfl ⟨rfl, hE1_68, oE1⟩

set_option maxRecDepth 20000 in
theorem m_mix (l : Launch) (G : Gl) (n : Nat) (ad : Nat → Nat) (E : Nat → va_E) (hn : 98 ≤ n) (hf : FreshM G ad E) (p : Int32)  : CtI l G yX9_mix cX9_mix 2 .int 2 42 n ad E [.ref (ad 68), .int p] (fun r E' => r.toInt = if okPr p.toInt then 0 else -1) := by
  refine CtI.of (by decide) (Nat.le_of_ble_eq_true rfl) (fun X A C => ?_)
  obtain ⟨h68, h69, h70, h71, h72, h73, h74, h75, h76, h77, h78, h79, h80, h81, h82, h83, h84, h85, h86, h87, h88, h89, h90, h91, h92, h93, h94, h95, h96, h97⟩ := id hf
  refine v_sub (lv' := [(0, .ref (ad 68)), (1, .int p)]) [0, 1] rfl ?_
  refine v_iload_n C 1 dX9_mix_0 rfl rfl ?_
  refine v_cSp C dX9_mix_1 lX9_194 mX9_isProgram (d_isProgram l G n ad _ p) ⟨by decide, by decide⟩ rfl (Nat.le_of_ble_eq_true rfl) ⟨Nat.zero_le _, Nat.zero_le _⟩ (fun r1 hp2 => ?_)
  unfold okPr at hp2
  rcases hp2 with ⟨rfl, hp2⟩ | ⟨rfl, hp2⟩
  · refine b_if_ne C 9 dX9_mix_4 (by decide) (show (1 : Int32).toInt = 1 by decide) (fun c3 => ?_) (fun c3 => absurd c3 (by decide))
    refine v_aload_n C 0 dX9_mix_9 rfl rfl ?_
    refine v_iload_n C 1 dX9_mix_10 rfl rfl ?_
    refine v_cVv C dX9_mix_11 lX9_219 mX9_take 68 (by omega) h68 (by decide) rfl (d_take0 l G n ad _ hn h68 h88 p (by unfold okPr; omega)) ⟨by decide, by decide⟩ rfl (Nat.le_of_ble_eq_true rfl) ⟨Nat.zero_le _, Nat.zero_le _⟩ (fun E4 hq5 => ?_)
    obtain ⟨hE4_68, oE4⟩ := hq5
    have hE4_88 := (oE4 88 (by decide)).trans h88
    refine v_aload_n C 0 dX9_mix_14 rfl rfl ?_
    refine v_cVi C dX9_mix_15 lX9_222 mX9_mixOf 68 (by omega) hE4_68 (by decide) rfl (d_mixOf0 l G n ad _ hn hE4_68 rfl) ⟨by decide, by decide⟩ rfl (Nat.le_of_ble_eq_true rfl) ⟨Nat.zero_le _, Nat.zero_le _⟩ (fun r8 E6 hq7 => ?_)
    obtain ⟨rfl, hE6_68, oE6⟩ := hq7
    have hE6_88 := (oE6 88 (by decide)).trans hE4_88
    exact v_ret C dX9_mix_18 rfl rfl (show _ by rw [show (0 : Int32).toInt = 0 by decide]; unfold okPr; (repeat first | rw [if_pos (by omega)] | rw [if_neg (by omega)]); try omega)
  · refine b_if_ne C 9 dX9_mix_4 (by decide) (show (0 : Int32).toInt = 0 by decide) (fun c9 => absurd c9 (by decide)) (fun c9 => ?_)
    refine v_iconst (v := (-1)) C dX9_mix_7 (by decide) ?_
    exact v_ret C dX9_mix_8 rfl rfl (show _ by rw [show ((-1) : Int32).toInt = (-1) by decide]; unfold okPr; (repeat first | rw [if_pos (by omega)] | rw [if_neg (by omega)]); try omega)

set_option maxRecDepth 20000 in
theorem m_kind (l : Launch) (G : Gl) (n : Nat) (ad : Nat → Nat) (E : Nat → va_E) (hn : 98 ≤ n) (hf : FreshM G ad E) (p : Int32)  : CtI l G yX9_kind cX9_kind 2 .int 2 42 n ad E [.ref (ad 68), .int p] (fun r E' => r.toInt = if okPr p.toInt then -4 else -1) := by
  refine CtI.of (by decide) (Nat.le_of_ble_eq_true rfl) (fun X A C => ?_)
  obtain ⟨h68, h69, h70, h71, h72, h73, h74, h75, h76, h77, h78, h79, h80, h81, h82, h83, h84, h85, h86, h87, h88, h89, h90, h91, h92, h93, h94, h95, h96, h97⟩ := id hf
  refine v_sub (lv' := [(0, .ref (ad 68)), (1, .int p)]) [0, 1] rfl ?_
  refine v_iload_n C 1 dX9_kind_0 rfl rfl ?_
  refine v_cSp C dX9_kind_1 lX9_194 mX9_isProgram (d_isProgram l G n ad _ p) ⟨by decide, by decide⟩ rfl (Nat.le_of_ble_eq_true rfl) ⟨Nat.zero_le _, Nat.zero_le _⟩ (fun r1 hp2 => ?_)
  unfold okPr at hp2
  rcases hp2 with ⟨rfl, hp2⟩ | ⟨rfl, hp2⟩
  · refine b_if_ne C 9 dX9_kind_4 (by decide) (show (1 : Int32).toInt = 1 by decide) (fun c3 => ?_) (fun c3 => absurd c3 (by decide))
    refine v_aload_n C 0 dX9_kind_9 rfl rfl ?_
    refine v_iload_n C 1 dX9_kind_10 rfl rfl ?_
    refine v_cVv C dX9_kind_11 lX9_219 mX9_take 68 (by omega) h68 (by decide) rfl (d_take0 l G n ad _ hn h68 h88 p (by unfold okPr; omega)) ⟨by decide, by decide⟩ rfl (Nat.le_of_ble_eq_true rfl) ⟨Nat.zero_le _, Nat.zero_le _⟩ (fun E4 hq5 => ?_)
    obtain ⟨hE4_68, oE4⟩ := hq5
    have hE4_88 := (oE4 88 (by decide)).trans h88
    refine v_aload_n C 0 dX9_kind_14 rfl rfl ?_
    refine v_cVi C dX9_kind_15 lX9_222 mX9_mixOf 68 (by omega) hE4_68 (by decide) rfl (d_mixOf0 l G n ad _ hn hE4_68 rfl) ⟨by decide, by decide⟩ rfl (Nat.le_of_ble_eq_true rfl) ⟨Nat.zero_le _, Nat.zero_le _⟩ (fun r8 E6 hq7 => ?_)
    obtain ⟨rfl, hE6_68, oE6⟩ := hq7
    have hE6_88 := (oE6 88 (by decide)).trans hE4_88
    refine v_bipush (v := (-6)) C dX9_kind_18 (by decide) ?_
    refine b_icmp_ne C 32 dX9_kind_20 (by decide) (show (0 : Int32).toInt = 0 by decide) (show ((-6) : Int32).toInt = (-6) by decide) (fun c9 => ?_) (fun c9 => absurd c9 (by decide))
    refine v_bipush (v := (-4)) C dX9_kind_32 (by decide) ?_
    exact v_ret C dX9_kind_34 rfl rfl (show _ by rw [show ((-4) : Int32).toInt = (-4) by decide]; unfold okPr; (repeat first | rw [if_pos (by omega)] | rw [if_neg (by omega)]); try omega)
  · refine b_if_ne C 9 dX9_kind_4 (by decide) (show (0 : Int32).toInt = 0 by decide) (fun c10 => absurd c10 (by decide)) (fun c10 => ?_)
    refine v_iconst (v := (-1)) C dX9_kind_7 (by decide) ?_
    exact v_ret C dX9_kind_8 rfl rfl (show _ by rw [show ((-1) : Int32).toInt = (-1) by decide]; unfold okPr; (repeat first | rw [if_pos (by omega)] | rw [if_neg (by omega)]); try omega)

set_option maxRecDepth 20000 in
theorem m_run (l : Launch) (G : Gl) (n : Nat) (ad : Nat → Nat) (E : Nat → va_E) (hn : 98 ≤ n) (hf : FreshM G ad E) (p : Int32) (m : Int32)  : CtI l G yX9_run cX9_run 3 .int 2 42 n ad E [.ref (ad 68), .int p, .int m] (fun r E' => r.toInt = -2000000000) := by
  refine CtI.of (by decide) (Nat.le_of_ble_eq_true rfl) (fun X A C => ?_)
  obtain ⟨h68, h69, h70, h71, h72, h73, h74, h75, h76, h77, h78, h79, h80, h81, h82, h83, h84, h85, h86, h87, h88, h89, h90, h91, h92, h93, h94, h95, h96, h97⟩ := id hf
  refine v_sub (lv' := [(0, .ref (ad 68)), (1, .int p), (2, .int m)]) [0, 1, 2] rfl ?_
  refine v_iload_n C 1 dX9_run_0 rfl rfl ?_
  refine v_cSp C dX9_run_1 lX9_194 mX9_isProgram (d_isProgram l G n ad _ p) ⟨by decide, by decide⟩ rfl (Nat.le_of_ble_eq_true rfl) ⟨Nat.zero_le _, Nat.zero_le _⟩ (fun r1 hp2 => ?_)
  unfold okPr at hp2
  rcases hp2 with ⟨rfl, hp2⟩ | ⟨rfl, hp2⟩
  · refine b_if_eq C 14 dX9_run_4 (by decide) (show (1 : Int32).toInt = 1 by decide) (fun c3 => absurd c3 (by decide)) (fun c3 => ?_)
    refine v_iload_n C 2 dX9_run_7 rfl rfl ?_
    refine v_cSp C dX9_run_8 lX9_179 mX9_isMoment (d_isMoment l G n ad _ m) ⟨by decide, by decide⟩ rfl (Nat.le_of_ble_eq_true rfl) ⟨Nat.zero_le _, Nat.zero_le _⟩ (fun r4 hp5 => ?_)
    unfold okMom at hp5
    rcases hp5 with ⟨rfl, hp5⟩ | ⟨rfl, hp5⟩
    · refine b_if_ne C 17 dX9_run_11 (by decide) (show (1 : Int32).toInt = 1 by decide) (fun c6 => ?_) (fun c6 => absurd c6 (by decide))
      refine v_aload_n C 0 dX9_run_17 rfl rfl ?_
      refine v_iload_n C 1 dX9_run_18 rfl rfl ?_
      refine v_cVv C dX9_run_19 lX9_219 mX9_take 68 (by omega) h68 (by decide) rfl (d_take0 l G n ad _ hn h68 h88 p (by unfold okPr; omega)) ⟨by decide, by decide⟩ rfl (Nat.le_of_ble_eq_true rfl) ⟨Nat.zero_le _, Nat.zero_le _⟩ (fun E7 hq8 => ?_)
      obtain ⟨hE7_68, oE7⟩ := hq8
      have hE7_88 := (oE7 88 (by decide)).trans h88
      refine v_aload_n C 0 dX9_run_22 rfl rfl ?_
      refine v_cVi C dX9_run_23 lX9_222 mX9_mixOf 68 (by omega) hE7_68 (by decide) rfl (d_mixOf0 l G n ad _ hn hE7_68 rfl) ⟨by decide, by decide⟩ rfl (Nat.le_of_ble_eq_true rfl) ⟨Nat.zero_le _, Nat.zero_le _⟩ (fun r11 E9 hq10 => ?_)
      obtain ⟨rfl, hE9_68, oE9⟩ := hq10
      have hE9_88 := (oE9 88 (by decide)).trans hE7_88
      refine v_bipush (v := (-6)) C dX9_run_26 (by decide) ?_
      refine b_icmp_ne C 48 dX9_run_28 (by decide) (show (0 : Int32).toInt = 0 by decide) (show ((-6) : Int32).toInt = (-6) by decide) (fun c12 => ?_) (fun c12 => absurd c12 (by decide))
      refine v_ldc C dX9_run_48 kX9_252 ?_
      exact v_ret C dX9_run_50 rfl rfl (show _ by rw [show ((-2000000000) : Int32).toInt = (-2000000000) by decide]; (repeat first | rw [if_pos (by omega)] | rw [if_neg (by omega)]); try omega)
    · refine b_if_ne C 17 dX9_run_11 (by decide) (show (0 : Int32).toInt = 0 by decide) (fun c13 => absurd c13 (by decide)) (fun c13 => ?_)
      refine v_ldc C dX9_run_14 kX9_252 ?_
      exact v_ret C dX9_run_16 rfl rfl (show _ by rw [show ((-2000000000) : Int32).toInt = (-2000000000) by decide]; (repeat first | rw [if_pos (by omega)] | rw [if_neg (by omega)]); try omega)
  · refine b_if_eq C 14 dX9_run_4 (by decide) (show (0 : Int32).toInt = 0 by decide) (fun c14 => ?_) (fun c14 => absurd c14 (by decide))
    refine v_ldc C dX9_run_14 kX9_252 ?_
    exact v_ret C dX9_run_16 rfl rfl (show _ by rw [show ((-2000000000) : Int32).toInt = (-2000000000) by decide]; (repeat first | rw [if_pos (by omega)] | rw [if_neg (by omega)]); try omega)

set_option maxRecDepth 20000 in
theorem d_isLaw0 (l : Launch) (G : Gl) (n : Nat) (ad : Nat → Nat) (E : Nat → va_E) (hn : 98 ≤ n) (hf : FreshM G ad E) (w : Int32) (v : Int32)  : CtI l G yX9_isLaw cX9_isLaw 3 .boolean 1 22 n ad E [.ref (ad 68), .int w, .int v] (fun r E' => ((r = 1 ∧ (okLaw w.toInt v.toInt)) ∨ (r = 0 ∧ ¬ (okLaw w.toInt v.toInt))) ∧ E = E') := by
  refine CtI.of (by decide) (Nat.le_of_ble_eq_true rfl) (fun X A C => ?_)
  obtain ⟨h68, h69, h70, h71, h72, h73, h74, h75, h76, h77, h78, h79, h80, h81, h82, h83, h84, h85, h86, h87, h88, h89, h90, h91, h92, h93, h94, h95, h96, h97⟩ := id hf
  refine v_sub (lv' := [(0, .ref (ad 68)), (1, .int w), (2, .int v)]) [0, 1, 2] rfl ?_
  refine v_iload_n C 1 dX9_isLaw_0 rfl rfl ?_
  refine b_if_ge C 6 dX9_isLaw_1 (by decide) (rfl : Int32.toInt w = _) (fun c1 => ?_) (fun c1 => ?_)
  · refine v_iload_n C 1 dX9_isLaw_6 rfl rfl ?_
    refine v_bipush (v := 10) C dX9_isLaw_7 (by decide) ?_
    refine v_irem C dX9_isLaw_9 (by decide) ?_
    refine v_top (fun x2 ex2 => ?_)
    have hx2 : x2.toInt = (w.toInt % 10) := by rw [ex2]; exact ti_rem (rfl : Int32.toInt w = _) (show (10 : Int32).toInt = 10 by decide) (by omega) (by omega)
    have q3v : Int32.toInt x2 = (w.toInt % 10) := hx2
    rcases (show (w.toInt % 10) = 0 ∨ (w.toInt % 10) = 1 ∨ (w.toInt % 10) = 2 ∨ (w.toInt % 10) = 3 ∨ (w.toInt % 10) = 4 ∨ ((w.toInt % 10) < 0 ∨ 4 < (w.toInt % 10)) by omega) with q3 | q3 | q3 | q3 | q3 | q3
    · refine v_tableIn (off := 34) C 44 dX9_isLaw_10 (by omega) (by omega) (by rw [q3v, q3]; rfl) (by decide) ?_
      refine v_iload_n C 1 dX9_isLaw_44 rfl rfl ?_
      refine v_bipush (v := 10) C dX9_isLaw_45 (by decide) ?_
      refine v_idiv C dX9_isLaw_47 (by decide) ?_
      refine v_top (fun x4 ex4 => ?_)
      have hx4 : x4.toInt = (w.toInt / 10) := by rw [ex4]; exact ti_div (rfl : Int32.toInt w = _) (show (10 : Int32).toInt = 10 by decide) (by omega) (by omega)
      refine b_if_ne C 55 dX9_isLaw_48 (by decide) hx4 (fun c5 => ?_) (fun c5 => ?_)
      · refine v_iconst (v := 0) C dX9_isLaw_55 (by decide) ?_
        exact v_ret C dX9_isLaw_56 rfl rfl ⟨Or.inr ⟨rfl, by unfold okLaw; omega⟩, rfl⟩
      · refine v_iconst (v := 1) C dX9_isLaw_51 (by decide) ?_
        refine v_goto C 56 dX9_isLaw_52 (by decide) ?_
        exact v_ret C dX9_isLaw_56 rfl rfl ⟨Or.inl ⟨rfl, by unfold okLaw; omega⟩, rfl⟩
    · refine v_tableIn (off := 47) C 57 dX9_isLaw_10 (by omega) (by omega) (by rw [q3v, q3]; rfl) (by decide) ?_
      refine v_aload_n C 0 dX9_isLaw_57 rfl rfl ?_
      refine v_iload_n C 1 dX9_isLaw_58 rfl rfl ?_
      refine v_bipush (v := 10) C dX9_isLaw_59 (by decide) ?_
      refine v_idiv C dX9_isLaw_61 (by decide) ?_
      refine v_top (fun x6 ex6 => ?_)
      have hx6 : x6.toInt = (w.toInt / 10) := by rw [ex6]; exact ti_div (rfl : Int32.toInt w = _) (show (10 : Int32).toInt = 10 by decide) (by omega) (by omega)
      refine v_cVp C dX9_isLaw_62 lX9_162 mX9_isZone 68 (by omega) h68 (by decide) rfl (d_isZone0 l G n ad _ hn hf x6) ⟨by decide, by decide⟩ rfl (Nat.le_of_ble_eq_true rfl) ⟨Nat.zero_le _, Nat.zero_le _⟩ (fun r7 hp8 => ?_)
      subst hp8
      refine b_if_eq C 83 dX9_isLaw_65 (by decide) (show (0 : Int32).toInt = 0 by decide) (fun c9 => ?_) (fun c9 => absurd c9 (by decide))
      refine v_iconst (v := 0) C dX9_isLaw_83 (by decide) ?_
      exact v_ret C dX9_isLaw_84 rfl rfl ⟨Or.inr ⟨rfl, by unfold okLaw; omega⟩, rfl⟩
    · refine v_tableIn (off := 75) C 85 dX9_isLaw_10 (by omega) (by omega) (by rw [q3v, q3]; rfl) (by decide) ?_
      refine v_aload_n C 0 dX9_isLaw_85 rfl rfl ?_
      refine v_iload_n C 1 dX9_isLaw_86 rfl rfl ?_
      refine v_bipush (v := 10) C dX9_isLaw_87 (by decide) ?_
      refine v_idiv C dX9_isLaw_89 (by decide) ?_
      refine v_top (fun x10 ex10 => ?_)
      have hx10 : x10.toInt = (w.toInt / 10) := by rw [ex10]; exact ti_div (rfl : Int32.toInt w = _) (show (10 : Int32).toInt = 10 by decide) (by omega) (by omega)
      refine v_cVp C dX9_isLaw_90 lX9_162 mX9_isZone 68 (by omega) h68 (by decide) rfl (d_isZone0 l G n ad _ hn hf x10) ⟨by decide, by decide⟩ rfl (Nat.le_of_ble_eq_true rfl) ⟨Nat.zero_le _, Nat.zero_le _⟩ (fun r11 hp12 => ?_)
      subst hp12
      refine b_if_eq C 104 dX9_isLaw_93 (by decide) (show (0 : Int32).toInt = 0 by decide) (fun c13 => ?_) (fun c13 => absurd c13 (by decide))
      refine v_iconst (v := 0) C dX9_isLaw_104 (by decide) ?_
      exact v_ret C dX9_isLaw_105 rfl rfl ⟨Or.inr ⟨rfl, by unfold okLaw; omega⟩, rfl⟩
    · refine v_tableIn (off := 34) C 44 dX9_isLaw_10 (by omega) (by omega) (by rw [q3v, q3]; rfl) (by decide) ?_
      refine v_iload_n C 1 dX9_isLaw_44 rfl rfl ?_
      refine v_bipush (v := 10) C dX9_isLaw_45 (by decide) ?_
      refine v_idiv C dX9_isLaw_47 (by decide) ?_
      refine v_top (fun x14 ex14 => ?_)
      have hx14 : x14.toInt = (w.toInt / 10) := by rw [ex14]; exact ti_div (rfl : Int32.toInt w = _) (show (10 : Int32).toInt = 10 by decide) (by omega) (by omega)
      refine b_if_ne C 55 dX9_isLaw_48 (by decide) hx14 (fun c15 => ?_) (fun c15 => ?_)
      · refine v_iconst (v := 0) C dX9_isLaw_55 (by decide) ?_
        exact v_ret C dX9_isLaw_56 rfl rfl ⟨Or.inr ⟨rfl, by unfold okLaw; omega⟩, rfl⟩
      · refine v_iconst (v := 1) C dX9_isLaw_51 (by decide) ?_
        refine v_goto C 56 dX9_isLaw_52 (by decide) ?_
        exact v_ret C dX9_isLaw_56 rfl rfl ⟨Or.inl ⟨rfl, by unfold okLaw; omega⟩, rfl⟩
    · refine v_tableIn (off := 96) C 106 dX9_isLaw_10 (by omega) (by omega) (by rw [q3v, q3]; rfl) (by decide) ?_
      refine v_iload_n C 1 dX9_isLaw_106 rfl rfl ?_
      refine v_bipush (v := 10) C dX9_isLaw_107 (by decide) ?_
      refine v_idiv C dX9_isLaw_109 (by decide) ?_
      refine v_top (fun x16 ex16 => ?_)
      have hx16 : x16.toInt = (w.toInt / 10) := by rw [ex16]; exact ti_div (rfl : Int32.toInt w = _) (show (10 : Int32).toInt = 10 by decide) (by omega) (by omega)
      refine b_if_ne C 121 dX9_isLaw_110 (by decide) hx16 (fun c17 => ?_) (fun c17 => ?_)
      · refine v_iconst (v := 0) C dX9_isLaw_121 (by decide) ?_
        exact v_ret C dX9_isLaw_122 rfl rfl ⟨Or.inr ⟨rfl, by unfold okLaw; omega⟩, rfl⟩
      · refine v_iload_n C 2 dX9_isLaw_113 rfl rfl ?_
        refine b_if_ne C 121 dX9_isLaw_114 (by decide) (rfl : Int32.toInt v = _) (fun c18 => ?_) (fun c18 => ?_)
        · refine v_iconst (v := 0) C dX9_isLaw_121 (by decide) ?_
          exact v_ret C dX9_isLaw_122 rfl rfl ⟨Or.inr ⟨rfl, by unfold okLaw; omega⟩, rfl⟩
        · refine v_iconst (v := 1) C dX9_isLaw_117 (by decide) ?_
          refine v_goto C 122 dX9_isLaw_118 (by decide) ?_
          exact v_ret C dX9_isLaw_122 rfl rfl ⟨Or.inl ⟨rfl, by unfold okLaw; omega⟩, rfl⟩
    · refine v_tableOut C 123 dX9_isLaw_10 (by omega) (by decide) ?_
      refine v_iconst (v := 0) C dX9_isLaw_123 (by decide) ?_
      exact v_ret C dX9_isLaw_124 rfl rfl ⟨Or.inr ⟨rfl, by unfold okLaw; omega⟩, rfl⟩
  · refine v_iconst (v := 0) C dX9_isLaw_4 (by decide) ?_
    exact v_ret C dX9_isLaw_5 rfl rfl ⟨Or.inr ⟨rfl, by unfold okLaw; omega⟩, rfl⟩

set_option maxRecDepth 20000 in
theorem m_keeps (l : Launch) (G : Gl) (n : Nat) (ad : Nat → Nat) (E : Nat → va_E) (hn : 98 ≤ n) (hf : FreshM G ad E) (p : Int32) (w : Int32) (v : Int32) (m : Int32)  : CtI l G yX9_keeps cX9_keeps 5 .int 3 64 n ad E [.ref (ad 68), .int p, .int w, .int v, .int m] (fun r E' => r.toInt = if okPr p.toInt ∧ okLaw w.toInt v.toInt ∧ okMom m.toInt then -4 else -1) := by
  refine CtI.of (by decide) (Nat.le_of_ble_eq_true rfl) (fun X A C => ?_)
  obtain ⟨h68, h69, h70, h71, h72, h73, h74, h75, h76, h77, h78, h79, h80, h81, h82, h83, h84, h85, h86, h87, h88, h89, h90, h91, h92, h93, h94, h95, h96, h97⟩ := id hf
  refine v_sub (lv' := [(0, .ref (ad 68)), (1, .int p), (2, .int w), (3, .int v), (4, .int m)]) [0, 1, 2, 3, 4] rfl ?_
  refine v_iload_n C 1 dX9_keeps_0 rfl rfl ?_
  refine v_cSp C dX9_keeps_1 lX9_194 mX9_isProgram (d_isProgram l G n ad _ p) ⟨by decide, by decide⟩ rfl (Nat.le_of_ble_eq_true rfl) ⟨Nat.zero_le _, Nat.zero_le _⟩ (fun r1 hp2 => ?_)
  unfold okPr at hp2
  rcases hp2 with ⟨rfl, hp2⟩ | ⟨rfl, hp2⟩
  · refine b_if_eq C 24 dX9_keeps_4 (by decide) (show (1 : Int32).toInt = 1 by decide) (fun c3 => absurd c3 (by decide)) (fun c3 => ?_)
    refine v_aload_n C 0 dX9_keeps_7 rfl rfl ?_
    refine v_iload_n C 2 dX9_keeps_8 rfl rfl ?_
    refine v_iload_n C 3 dX9_keeps_9 rfl rfl ?_
    refine v_cVp C dX9_keeps_10 lX9_259 mX9_isLaw 68 (by omega) h68 (by decide) rfl (d_isLaw0 l G n ad _ hn hf w v) ⟨by decide, by decide⟩ rfl (Nat.le_of_ble_eq_true rfl) ⟨Nat.zero_le _, Nat.zero_le _⟩ (fun r4 hp5 => ?_)
    unfold okLaw at hp5
    rcases hp5 with ⟨rfl, hp5⟩ | ⟨rfl, hp5⟩
    · refine b_if_eq C 24 dX9_keeps_13 (by decide) (show (1 : Int32).toInt = 1 by decide) (fun c6 => absurd c6 (by decide)) (fun c6 => ?_)
      refine v_iload C 4 dX9_keeps_16 rfl ?_
      refine v_cSp C dX9_keeps_18 lX9_179 mX9_isMoment (d_isMoment l G n ad _ m) ⟨by decide, by decide⟩ rfl (Nat.le_of_ble_eq_true rfl) ⟨Nat.zero_le _, Nat.zero_le _⟩ (fun r7 hp8 => ?_)
      unfold okMom at hp8
      rcases hp8 with ⟨rfl, hp8⟩ | ⟨rfl, hp8⟩
      · refine b_if_ne C 26 dX9_keeps_21 (by decide) (show (1 : Int32).toInt = 1 by decide) (fun c9 => ?_) (fun c9 => absurd c9 (by decide))
        refine v_aload_n C 0 dX9_keeps_26 rfl rfl ?_
        refine v_iload_n C 1 dX9_keeps_27 rfl rfl ?_
        refine v_cVv C dX9_keeps_28 lX9_219 mX9_take 68 (by omega) h68 (by decide) rfl (d_take0 l G n ad _ hn h68 h88 p (by unfold okPr; omega)) ⟨by decide, by decide⟩ rfl (Nat.le_of_ble_eq_true rfl) ⟨Nat.zero_le _, Nat.zero_le _⟩ (fun E10 hq11 => ?_)
        obtain ⟨hE10_68, oE10⟩ := hq11
        have hE10_88 := (oE10 88 (by decide)).trans h88
        refine v_aload_n C 0 dX9_keeps_31 rfl rfl ?_
        refine v_cVi C dX9_keeps_32 lX9_222 mX9_mixOf 68 (by omega) hE10_68 (by decide) rfl (d_mixOf0 l G n ad _ hn hE10_68 rfl) ⟨by decide, by decide⟩ rfl (Nat.le_of_ble_eq_true rfl) ⟨Nat.zero_le _, Nat.zero_le _⟩ (fun r14 E12 hq13 => ?_)
        obtain ⟨rfl, hE12_68, oE12⟩ := hq13
        have hE12_88 := (oE12 88 (by decide)).trans hE10_88
        refine v_bipush (v := (-6)) C dX9_keeps_35 (by decide) ?_
        refine b_icmp_eq C 45 dX9_keeps_37 (by decide) (show (0 : Int32).toInt = 0 by decide) (show ((-6) : Int32).toInt = (-6) by decide) (fun c15 => absurd c15 (by decide)) (fun c15 => ?_)
        refine v_bipush (v := (-4)) C dX9_keeps_40 (by decide) ?_
        refine v_goto C 61 dX9_keeps_42 (by decide) ?_
        exact v_ret C dX9_keeps_61 rfl rfl (show _ by rw [show ((-4) : Int32).toInt = (-4) by decide]; unfold okPr; unfold okLaw; unfold okMom; (repeat first | rw [if_pos (by omega)] | rw [if_neg (by omega)]); try omega)
      · refine b_if_ne C 26 dX9_keeps_21 (by decide) (show (0 : Int32).toInt = 0 by decide) (fun c16 => absurd c16 (by decide)) (fun c16 => ?_)
        refine v_iconst (v := (-1)) C dX9_keeps_24 (by decide) ?_
        exact v_ret C dX9_keeps_25 rfl rfl (show _ by rw [show ((-1) : Int32).toInt = (-1) by decide]; unfold okPr; unfold okLaw; unfold okMom; (repeat first | rw [if_pos (by omega)] | rw [if_neg (by omega)]); try omega)
    · refine b_if_eq C 24 dX9_keeps_13 (by decide) (show (0 : Int32).toInt = 0 by decide) (fun c17 => ?_) (fun c17 => absurd c17 (by decide))
      refine v_iconst (v := (-1)) C dX9_keeps_24 (by decide) ?_
      exact v_ret C dX9_keeps_25 rfl rfl (show _ by rw [show ((-1) : Int32).toInt = (-1) by decide]; unfold okPr; unfold okLaw; unfold okMom; (repeat first | rw [if_pos (by omega)] | rw [if_neg (by omega)]); try omega)
  · refine b_if_eq C 24 dX9_keeps_4 (by decide) (show (0 : Int32).toInt = 0 by decide) (fun c18 => ?_) (fun c18 => absurd c18 (by decide))
    refine v_iconst (v := (-1)) C dX9_keeps_24 (by decide) ?_
    exact v_ret C dX9_keeps_25 rfl rfl (show _ by rw [show ((-1) : Int32).toInt = (-1) by decide]; unfold okPr; unfold okLaw; unfold okMom; (repeat first | rw [if_pos (by omega)] | rw [if_neg (by omega)]); try omega)

set_option maxRecDepth 20000 in
theorem m_least (l : Launch) (G : Gl) (n : Nat) (ad : Nat → Nat) (E : Nat → va_E) (hn : 98 ≤ n) (hf : FreshM G ad E) (p : Int32) (w : Int32) (v : Int32) (a : Int32) (m : Int32)  : CtI l G yX9_least cX9_least 6 .int 3 64 n ad E [.ref (ad 68), .int p, .int w, .int v, .int a, .int m] (fun r E' => r.toInt = if okPr p.toInt ∧ okLaw w.toInt v.toInt ∧ okRch a.toInt m.toInt 2000000 then -4 else -1) := by
  refine CtI.of (by decide) (Nat.le_of_ble_eq_true rfl) (fun X A C => ?_)
  obtain ⟨h68, h69, h70, h71, h72, h73, h74, h75, h76, h77, h78, h79, h80, h81, h82, h83, h84, h85, h86, h87, h88, h89, h90, h91, h92, h93, h94, h95, h96, h97⟩ := id hf
  refine v_sub (lv' := [(0, .ref (ad 68)), (1, .int p), (2, .int w), (3, .int v), (4, .int a), (5, .int m)]) [0, 1, 2, 3, 4, 5] rfl ?_
  refine v_iload_n C 1 dX9_least_0 rfl rfl ?_
  refine v_cSp C dX9_least_1 lX9_194 mX9_isProgram (d_isProgram l G n ad _ p) ⟨by decide, by decide⟩ rfl (Nat.le_of_ble_eq_true rfl) ⟨Nat.zero_le _, Nat.zero_le _⟩ (fun r1 hp2 => ?_)
  unfold okPr at hp2
  rcases hp2 with ⟨rfl, hp2⟩ | ⟨rfl, hp2⟩
  · refine b_if_eq C 29 dX9_least_4 (by decide) (show (1 : Int32).toInt = 1 by decide) (fun c3 => absurd c3 (by decide)) (fun c3 => ?_)
    refine v_aload_n C 0 dX9_least_7 rfl rfl ?_
    refine v_iload_n C 2 dX9_least_8 rfl rfl ?_
    refine v_iload_n C 3 dX9_least_9 rfl rfl ?_
    refine v_cVp C dX9_least_10 lX9_259 mX9_isLaw 68 (by omega) h68 (by decide) rfl (d_isLaw0 l G n ad _ hn hf w v) ⟨by decide, by decide⟩ rfl (Nat.le_of_ble_eq_true rfl) ⟨Nat.zero_le _, Nat.zero_le _⟩ (fun r4 hp5 => ?_)
    unfold okLaw at hp5
    rcases hp5 with ⟨rfl, hp5⟩ | ⟨rfl, hp5⟩
    · refine b_if_eq C 29 dX9_least_13 (by decide) (show (1 : Int32).toInt = 1 by decide) (fun c6 => absurd c6 (by decide)) (fun c6 => ?_)
      refine v_iload C 4 dX9_least_16 rfl ?_
      refine v_iload C 5 dX9_least_18 rfl ?_
      refine v_ldcw C dX9_least_20 kX9_276 ?_
      refine v_cSp C dX9_least_23 lX9_283 mX9_isRow (d_isRow l G n ad _ a m 2000000 (by decide)) ⟨by decide, by decide⟩ rfl (Nat.le_of_ble_eq_true rfl) ⟨Nat.zero_le _, Nat.zero_le _⟩ (fun r7 hp8 => ?_)
      rw [(show (2000000 : Int32).toInt = 2000000 by decide)] at hp8
      unfold okRch at hp8
      rcases hp8 with ⟨rfl, hp8⟩ | ⟨rfl, hp8⟩
      · refine b_if_ne C 31 dX9_least_26 (by decide) (show (1 : Int32).toInt = 1 by decide) (fun c9 => ?_) (fun c9 => absurd c9 (by decide))
        refine v_aload_n C 0 dX9_least_31 rfl rfl ?_
        refine v_iload_n C 1 dX9_least_32 rfl rfl ?_
        refine v_cVv C dX9_least_33 lX9_219 mX9_take 68 (by omega) h68 (by decide) rfl (d_take0 l G n ad _ hn h68 h88 p (by unfold okPr; omega)) ⟨by decide, by decide⟩ rfl (Nat.le_of_ble_eq_true rfl) ⟨Nat.zero_le _, Nat.zero_le _⟩ (fun E10 hq11 => ?_)
        obtain ⟨hE10_68, oE10⟩ := hq11
        have hE10_88 := (oE10 88 (by decide)).trans h88
        refine v_aload_n C 0 dX9_least_36 rfl rfl ?_
        refine v_cVi C dX9_least_37 lX9_222 mX9_mixOf 68 (by omega) hE10_68 (by decide) rfl (d_mixOf0 l G n ad _ hn hE10_68 rfl) ⟨by decide, by decide⟩ rfl (Nat.le_of_ble_eq_true rfl) ⟨Nat.zero_le _, Nat.zero_le _⟩ (fun r14 E12 hq13 => ?_)
        obtain ⟨rfl, hE12_68, oE12⟩ := hq13
        have hE12_88 := (oE12 88 (by decide)).trans hE10_88
        refine v_bipush (v := (-6)) C dX9_least_40 (by decide) ?_
        refine b_icmp_eq C 48 dX9_least_42 (by decide) (show (0 : Int32).toInt = 0 by decide) (show ((-6) : Int32).toInt = (-6) by decide) (fun c15 => absurd c15 (by decide)) (fun c15 => ?_)
        refine v_bipush (v := (-4)) C dX9_least_45 (by decide) ?_
        exact v_ret C dX9_least_47 rfl rfl (show _ by rw [show ((-4) : Int32).toInt = (-4) by decide]; unfold okPr; unfold okLaw; unfold okRch; (repeat first | rw [if_pos (by omega)] | rw [if_neg (by omega)]); try omega)
      · refine b_if_ne C 31 dX9_least_26 (by decide) (show (0 : Int32).toInt = 0 by decide) (fun c16 => absurd c16 (by decide)) (fun c16 => ?_)
        refine v_iconst (v := (-1)) C dX9_least_29 (by decide) ?_
        exact v_ret C dX9_least_30 rfl rfl (show _ by rw [show ((-1) : Int32).toInt = (-1) by decide]; unfold okPr; unfold okLaw; unfold okRch; (repeat first | rw [if_pos (by omega)] | rw [if_neg (by omega)]); try omega)
    · refine b_if_eq C 29 dX9_least_13 (by decide) (show (0 : Int32).toInt = 0 by decide) (fun c17 => ?_) (fun c17 => absurd c17 (by decide))
      refine v_iconst (v := (-1)) C dX9_least_29 (by decide) ?_
      exact v_ret C dX9_least_30 rfl rfl (show _ by rw [show ((-1) : Int32).toInt = (-1) by decide]; unfold okPr; unfold okLaw; unfold okRch; (repeat first | rw [if_pos (by omega)] | rw [if_neg (by omega)]); try omega)
  · refine b_if_eq C 29 dX9_least_4 (by decide) (show (0 : Int32).toInt = 0 by decide) (fun c18 => ?_) (fun c18 => absurd c18 (by decide))
    refine v_iconst (v := (-1)) C dX9_least_29 (by decide) ?_
    exact v_ret C dX9_least_30 rfl rfl (show _ by rw [show ((-1) : Int32).toInt = (-1) by decide]; unfold okPr; unfold okLaw; unfold okRch; (repeat first | rw [if_pos (by omega)] | rw [if_neg (by omega)]); try omega)

set_option maxRecDepth 20000 in
theorem m_count (l : Launch) (G : Gl) (n : Nat) (ad : Nat → Nat) (E : Nat → va_E) (hn : 98 ≤ n) (hf : FreshM G ad E) (w : Int32)  : CtI l G yX9_count cX9_count 4 .int 3 64 n ad E [.ref (ad 68), .int w] (fun r E' => r.toInt = if w.toInt = 0 then 0 else if w.toInt = 1 then 0 else if w.toInt = 2 then 0 else if w.toInt = 3 then YSf md30 (ic0 4).toInt (ic0 5).toInt 100 else -1) := by
  refine CtI.of (by decide) (Nat.le_of_ble_eq_true rfl) (fun X A C => ?_)
  obtain ⟨h68, h69, h70, h71, h72, h73, h74, h75, h76, h77, h78, h79, h80, h81, h82, h83, h84, h85, h86, h87, h88, h89, h90, h91, h92, h93, h94, h95, h96, h97⟩ := id hf
  refine v_sub (lv' := [(0, .ref (ad 68)), (1, .int w)]) [0, 1] rfl ?_
  refine v_iconst (v := 0) C dX9_count_0 (by decide) ?_
  refine v_istore_n (lv' := [(0, .ref (ad 68)), (1, .int w), (2, .int 0)]) C [1, 2, 0] dX9_count_1 rfl (by decide) rfl ?_
  refine v_iconst (v := 0) C dX9_count_2 (by decide) ?_
  refine v_istore_n (lv' := [(0, .ref (ad 68)), (1, .int w), (2, .int 0), (3, .int 0)]) C [1, 2, 3, 0] dX9_count_3 rfl (by decide) rfl ?_
  refine v_iload_n C 3 dX9_count_4 rfl rfl ?_
  refine v_bipush (v := 6) C dX9_count_5 (by decide) ?_
  refine b_icmp_ge C 25 dX9_count_7 (by decide) (show (0 : Int32).toInt = 0 by decide) (show (6 : Int32).toInt = 6 by decide) (fun c1 => absurd c1 (by decide)) (fun c1 => ?_)
  refine v_iload_n C 2 dX9_count_10 rfl rfl ?_
  refine v_aload_n C 0 dX9_count_11 rfl rfl ?_
  refine v_getr C 68 dX9_count_12 fX9_85 (by omega) h68 rfl rfl ?_
  refine v_iload_n C 3 dX9_count_15 rfl rfl ?_
  refine v_ald (v := 0) C 88 dX9_count_16 (by omega) h88 (ti_in (show (0 : Int32).toInt = 0 by decide) (by omega) (by omega)) (rfl) ?_
  refine v_iadd C dX9_count_17 ?_
  refine v_eq (y := 0) (by decide) ?_
  refine v_istore_n (lv' := [(0, .ref (ad 68)), (1, .int w), (2, .int 0), (3, .int 0)]) C [1, 2, 0, 3] dX9_count_18 rfl (by decide) rfl ?_
  refine v_iinc (v := 1) (lv' := [(0, .ref (ad 68)), (1, .int w), (2, .int 0), (3, .int 1)]) C 3 [1, 2, 3, 0] dX9_count_19 rfl (by decide) (by decide) rfl ?_
  refine v_goto C 4 dX9_count_22 (by decide) ?_
  refine v_iload_n C 3 dX9_count_4 rfl rfl ?_
  refine v_bipush (v := 6) C dX9_count_5 (by decide) ?_
  refine b_icmp_ge C 25 dX9_count_7 (by decide) (show (1 : Int32).toInt = 1 by decide) (show (6 : Int32).toInt = 6 by decide) (fun c2 => absurd c2 (by decide)) (fun c2 => ?_)
  refine v_iload_n C 2 dX9_count_10 rfl rfl ?_
  refine v_aload_n C 0 dX9_count_11 rfl rfl ?_
  refine v_getr C 68 dX9_count_12 fX9_85 (by omega) h68 rfl rfl ?_
  refine v_iload_n C 3 dX9_count_15 rfl rfl ?_
  refine v_ald (v := 0) C 88 dX9_count_16 (by omega) h88 (ti_in (show (1 : Int32).toInt = 1 by decide) (by omega) (by omega)) (rfl) ?_
  refine v_iadd C dX9_count_17 ?_
  refine v_eq (y := 0) (by decide) ?_
  refine v_istore_n (lv' := [(0, .ref (ad 68)), (1, .int w), (2, .int 0), (3, .int 1)]) C [1, 2, 0, 3] dX9_count_18 rfl (by decide) rfl ?_
  refine v_iinc (v := 2) (lv' := [(0, .ref (ad 68)), (1, .int w), (2, .int 0), (3, .int 2)]) C 3 [1, 2, 3, 0] dX9_count_19 rfl (by decide) (by decide) rfl ?_
  refine v_goto C 4 dX9_count_22 (by decide) ?_
  refine v_iload_n C 3 dX9_count_4 rfl rfl ?_
  refine v_bipush (v := 6) C dX9_count_5 (by decide) ?_
  refine b_icmp_ge C 25 dX9_count_7 (by decide) (show (2 : Int32).toInt = 2 by decide) (show (6 : Int32).toInt = 6 by decide) (fun c3 => absurd c3 (by decide)) (fun c3 => ?_)
  refine v_iload_n C 2 dX9_count_10 rfl rfl ?_
  refine v_aload_n C 0 dX9_count_11 rfl rfl ?_
  refine v_getr C 68 dX9_count_12 fX9_85 (by omega) h68 rfl rfl ?_
  refine v_iload_n C 3 dX9_count_15 rfl rfl ?_
  refine v_ald (v := 0) C 88 dX9_count_16 (by omega) h88 (ti_in (show (2 : Int32).toInt = 2 by decide) (by omega) (by omega)) (rfl) ?_
  refine v_iadd C dX9_count_17 ?_
  refine v_eq (y := 0) (by decide) ?_
  refine v_istore_n (lv' := [(0, .ref (ad 68)), (1, .int w), (2, .int 0), (3, .int 2)]) C [1, 2, 0, 3] dX9_count_18 rfl (by decide) rfl ?_
  refine v_iinc (v := 3) (lv' := [(0, .ref (ad 68)), (1, .int w), (2, .int 0), (3, .int 3)]) C 3 [1, 2, 3, 0] dX9_count_19 rfl (by decide) (by decide) rfl ?_
  refine v_goto C 4 dX9_count_22 (by decide) ?_
  refine v_iload_n C 3 dX9_count_4 rfl rfl ?_
  refine v_bipush (v := 6) C dX9_count_5 (by decide) ?_
  refine b_icmp_ge C 25 dX9_count_7 (by decide) (show (3 : Int32).toInt = 3 by decide) (show (6 : Int32).toInt = 6 by decide) (fun c4 => absurd c4 (by decide)) (fun c4 => ?_)
  refine v_iload_n C 2 dX9_count_10 rfl rfl ?_
  refine v_aload_n C 0 dX9_count_11 rfl rfl ?_
  refine v_getr C 68 dX9_count_12 fX9_85 (by omega) h68 rfl rfl ?_
  refine v_iload_n C 3 dX9_count_15 rfl rfl ?_
  refine v_ald (v := 0) C 88 dX9_count_16 (by omega) h88 (ti_in (show (3 : Int32).toInt = 3 by decide) (by omega) (by omega)) (rfl) ?_
  refine v_iadd C dX9_count_17 ?_
  refine v_eq (y := 0) (by decide) ?_
  refine v_istore_n (lv' := [(0, .ref (ad 68)), (1, .int w), (2, .int 0), (3, .int 3)]) C [1, 2, 0, 3] dX9_count_18 rfl (by decide) rfl ?_
  refine v_iinc (v := 4) (lv' := [(0, .ref (ad 68)), (1, .int w), (2, .int 0), (3, .int 4)]) C 3 [1, 2, 3, 0] dX9_count_19 rfl (by decide) (by decide) rfl ?_
  refine v_goto C 4 dX9_count_22 (by decide) ?_
  refine v_iload_n C 3 dX9_count_4 rfl rfl ?_
  refine v_bipush (v := 6) C dX9_count_5 (by decide) ?_
  refine b_icmp_ge C 25 dX9_count_7 (by decide) (show (4 : Int32).toInt = 4 by decide) (show (6 : Int32).toInt = 6 by decide) (fun c5 => absurd c5 (by decide)) (fun c5 => ?_)
  refine v_iload_n C 2 dX9_count_10 rfl rfl ?_
  refine v_aload_n C 0 dX9_count_11 rfl rfl ?_
  refine v_getr C 68 dX9_count_12 fX9_85 (by omega) h68 rfl rfl ?_
  refine v_iload_n C 3 dX9_count_15 rfl rfl ?_
  refine v_ald (v := 0) C 88 dX9_count_16 (by omega) h88 (ti_in (show (4 : Int32).toInt = 4 by decide) (by omega) (by omega)) (rfl) ?_
  refine v_iadd C dX9_count_17 ?_
  refine v_eq (y := 0) (by decide) ?_
  refine v_istore_n (lv' := [(0, .ref (ad 68)), (1, .int w), (2, .int 0), (3, .int 4)]) C [1, 2, 0, 3] dX9_count_18 rfl (by decide) rfl ?_
  refine v_iinc (v := 5) (lv' := [(0, .ref (ad 68)), (1, .int w), (2, .int 0), (3, .int 5)]) C 3 [1, 2, 3, 0] dX9_count_19 rfl (by decide) (by decide) rfl ?_
  refine v_goto C 4 dX9_count_22 (by decide) ?_
  refine v_iload_n C 3 dX9_count_4 rfl rfl ?_
  refine v_bipush (v := 6) C dX9_count_5 (by decide) ?_
  refine b_icmp_ge C 25 dX9_count_7 (by decide) (show (5 : Int32).toInt = 5 by decide) (show (6 : Int32).toInt = 6 by decide) (fun c6 => absurd c6 (by decide)) (fun c6 => ?_)
  refine v_iload_n C 2 dX9_count_10 rfl rfl ?_
  refine v_aload_n C 0 dX9_count_11 rfl rfl ?_
  refine v_getr C 68 dX9_count_12 fX9_85 (by omega) h68 rfl rfl ?_
  refine v_iload_n C 3 dX9_count_15 rfl rfl ?_
  refine v_ald (v := 0) C 88 dX9_count_16 (by omega) h88 (ti_in (show (5 : Int32).toInt = 5 by decide) (by omega) (by omega)) (rfl) ?_
  refine v_iadd C dX9_count_17 ?_
  refine v_eq (y := 0) (by decide) ?_
  refine v_istore_n (lv' := [(0, .ref (ad 68)), (1, .int w), (2, .int 0), (3, .int 5)]) C [1, 2, 0, 3] dX9_count_18 rfl (by decide) rfl ?_
  refine v_iinc (v := 6) (lv' := [(0, .ref (ad 68)), (1, .int w), (2, .int 0), (3, .int 6)]) C 3 [1, 2, 3, 0] dX9_count_19 rfl (by decide) (by decide) rfl ?_
  refine v_goto C 4 dX9_count_22 (by decide) ?_
  refine v_iload_n C 3 dX9_count_4 rfl rfl ?_
  refine v_bipush (v := 6) C dX9_count_5 (by decide) ?_
  refine b_icmp_ge C 25 dX9_count_7 (by decide) (show (6 : Int32).toInt = 6 by decide) (show (6 : Int32).toInt = 6 by decide) (fun c7 => ?_) (fun c7 => absurd c7 (by decide))
  refine v_iload_n C 1 dX9_count_25 rfl rfl ?_
  refine b_if_ne C 36 dX9_count_26 (by decide) (rfl : Int32.toInt w = _) (fun c8 => ?_) (fun c8 => ?_)
  · refine v_iload_n C 1 dX9_count_36 rfl rfl ?_
    refine v_iconst (v := 1) C dX9_count_37 (by decide) ?_
    refine b_icmp_ne C 45 dX9_count_38 (by decide) (rfl : Int32.toInt w = _) (show (1 : Int32).toInt = 1 by decide) (fun c9 => ?_) (fun c9 => ?_)
    · refine v_iload_n C 1 dX9_count_45 rfl rfl ?_
      refine v_iconst (v := 2) C dX9_count_46 (by decide) ?_
      refine b_icmp_ne C 57 dX9_count_47 (by decide) (rfl : Int32.toInt w = _) (show (2 : Int32).toInt = 2 by decide) (fun c10 => ?_) (fun c10 => ?_)
      · refine v_iload_n C 1 dX9_count_57 rfl rfl ?_
        refine v_iconst (v := 3) C dX9_count_58 (by decide) ?_
        refine b_icmp_ne C 69 dX9_count_59 (by decide) (rfl : Int32.toInt w = _) (show (3 : Int32).toInt = 3 by decide) (fun c11 => ?_) (fun c11 => ?_)
        · refine v_iconst (v := (-1)) C dX9_count_69 (by decide) ?_
          exact v_ret C dX9_count_70 rfl rfl (show _ by rw [show ((-1) : Int32).toInt = (-1) by decide]; (repeat first | rw [if_pos (by omega)] | rw [if_neg (by omega)]); try omega)
        · refine v_aload_n C 0 dX9_count_62 rfl rfl ?_
          refine v_cVi C dX9_count_63 lX9_127 mX9_allDays 68 (by omega) h68 (by decide) rfl (d_allDays l G n ad _ hn hf.cal) ⟨by decide, by decide⟩ rfl (Nat.le_of_ble_eq_true rfl) ⟨Nat.zero_le _, Nat.zero_le _⟩ (fun r13 E12 hq14 => ?_)
          obtain ⟨hp15, _⟩ := hq14
          refine v_goto C 70 dX9_count_66 (by decide) ?_
          exact v_ret C dX9_count_70 rfl rfl (show _ by rw [hp15]; (repeat first | rw [if_pos (by omega)] | rw [if_neg (by omega)]); try omega)
      · refine v_aload_n C 0 dX9_count_50 rfl rfl ?_
        refine v_geti (v := 0) C 68 dX9_count_51 fX9_165 (by omega) h68 rfl rfl ?_
        refine v_goto C 70 dX9_count_54 (by decide) ?_
        exact v_ret C dX9_count_70 rfl rfl (show _ by rw [show (0 : Int32).toInt = 0 by decide]; (repeat first | rw [if_pos (by omega)] | rw [if_neg (by omega)]); try omega)
    · refine v_iload_n C 2 dX9_count_41 rfl rfl ?_
      refine v_goto C 70 dX9_count_42 (by decide) ?_
      exact v_ret C dX9_count_70 rfl rfl (show _ by rw [show (0 : Int32).toInt = 0 by decide]; (repeat first | rw [if_pos (by omega)] | rw [if_neg (by omega)]); try omega)
  · refine v_aload_n C 0 dX9_count_29 rfl rfl ?_
    refine v_geti (v := 0) C 68 dX9_count_30 fX9_135 (by omega) h68 rfl rfl ?_
    refine v_goto C 70 dX9_count_33 (by decide) ?_
    exact v_ret C dX9_count_70 rfl rfl (show _ by rw [show (0 : Int32).toInt = 0 by decide]; (repeat first | rw [if_pos (by omega)] | rw [if_neg (by omega)]); try omega)

