set_option maxRecDepth 20000 in
theorem e_isProgram (l : Launch) (G : Gl) (n : Nat) (ad : Nat → Nat) (E : Nat → va_E) (p : Int32)  : CtI l G yX9_isProgram cX9_isProgram 1 .boolean 1 22 n ad E [.int p] (fun r E' => ((r = 1 ∧ ((0 ≤ p.toInt ∧ p.toInt < 6))) ∨ (r = 0 ∧ ¬ ((0 ≤ p.toInt ∧ p.toInt < 6)))) ∧ E = E') := by
  refine CtI.of (by decide) (Nat.le_of_ble_eq_true rfl) (fun X A C => ?_)
  refine v_sub (lv' := [(0, .int p)]) [0] rfl ?_
  refine v_iload_n C 0 dX9_isProgram_0 rfl rfl ?_
  refine v_iconst (v := 0) C dX9_isProgram_1 (by decide) ?_
  refine v_iconst (v := 5) C dX9_isProgram_2 (by decide) ?_
  refine v_cSp C dX9_isProgram_3 lX9_131 mX9_within (d_within l G n ad _ p 0 5) ⟨by decide, by decide⟩ rfl (Nat.le_of_ble_eq_true rfl) ⟨Nat.zero_le _, Nat.zero_le _⟩ (fun r1 hp2 => ?_)
  rw [(show (0 : Int32).toInt = 0 by decide)] at hp2
  rw [(show (5 : Int32).toInt = 5 by decide)] at hp2
  rcases hp2 with ⟨rfl, hp2⟩ | ⟨rfl, hp2⟩
  · exact v_ret C dX9_isProgram_6 rfl rfl ⟨Or.inl ⟨rfl, by omega⟩, rfl⟩
  · exact v_ret C dX9_isProgram_6 rfl rfl ⟨Or.inr ⟨rfl, by omega⟩, rfl⟩

set_option maxRecDepth 20000 in
theorem e_isZone (l : Launch) (G : Gl) (n : Nat) (ad : Nat → Nat) (E : Nat → va_E) (hn : 98 ≤ n) {im : Nat → Int32} (h68 : E 68 = ob 9 (rX9 ad) im) (z : Int32)  : CtI l G yX9_isZone cX9_isZone 2 .boolean 0 0 n ad E [.ref (ad 68), .int z] (fun r E' => ((r = 1 ∧ ((0 ≤ z.toInt ∧ z.toInt < (im 16).toInt))) ∨ (r = 0 ∧ ¬ ((0 ≤ z.toInt ∧ z.toInt < (im 16).toInt)))) ∧ E = E') := by
  refine CtI.of (by decide) (Nat.le_of_ble_eq_true rfl) (fun X A C => ?_)
  refine v_sub (lv' := [(0, .ref (ad 68)), (1, .int z)]) [0, 1] rfl ?_
  refine v_iload_n C 1 dX9_isZone_0 rfl rfl ?_
  refine b_if_lt C 16 dX9_isZone_1 (by decide) (rfl : Int32.toInt z = _) (fun c1 => ?_) (fun c1 => ?_)
  · refine v_iconst (v := 0) C dX9_isZone_16 (by decide) ?_
    exact v_ret C dX9_isZone_17 rfl rfl ⟨Or.inr ⟨rfl, by omega⟩, rfl⟩
  · refine v_iload_n C 1 dX9_isZone_4 rfl rfl ?_
    refine v_aload_n C 0 dX9_isZone_5 rfl rfl ?_
    refine v_geti (v := im 16) C 68 dX9_isZone_6 fX9_135 (by omega) h68 rfl rfl ?_
    refine b_icmp_ge C 16 dX9_isZone_9 (by decide) (rfl : Int32.toInt z = _) (rfl : Int32.toInt (im 16) = _) (fun c2 => ?_) (fun c2 => ?_)
    · refine v_iconst (v := 0) C dX9_isZone_16 (by decide) ?_
      exact v_ret C dX9_isZone_17 rfl rfl ⟨Or.inr ⟨rfl, by omega⟩, rfl⟩
    · refine v_iconst (v := 1) C dX9_isZone_12 (by decide) ?_
      refine v_goto C 17 dX9_isZone_13 (by decide) ?_
      exact v_ret C dX9_isZone_17 rfl rfl ⟨Or.inl ⟨rfl, by omega⟩, rfl⟩

set_option maxRecDepth 20000 in
theorem e_forget (l : Launch) (G : Gl) (n : Nat) (ad : Nat → Nat) (E : Nat → va_E) (hn : 98 ≤ n) {im : Nat → Int32} (h68 : E 68 = ob 9 (rX9 ad) im) {fz : Nat → Int32} (h79 : E 79 = aZ G 5 fz)  : CtV l G yX9_forget cX9_forget 2 0 0 n ad E [.ref (ad 68)] (fun E' => ∃ fz2 : Nat → Int32, E' 79 = aZ G 5 fz2 ∧ (∀ k, k < 5 → fz2 k = 0) ∧ (∀ k, 5 ≤ k → fz2 k = fz k) ∧ ∀ j, j ≠ 79 → E' j = E j) := by
  refine CtV.of (by decide) (Nat.le_of_ble_eq_true rfl) (fun X A C => ?_)
  refine v_sub (lv' := [(0, .ref (ad 68))]) [0] rfl ?_
  refine v_iconst (v := 0) C dX9_forget_0 (by decide) ?_
  refine v_istore_n (lv' := [(0, .ref (ad 68)), (1, .int 0)]) C [1, 0] dX9_forget_1 rfl (by decide) rfl ?_
  refine v_iload_n C 1 dX9_forget_2 rfl rfl ?_
  refine v_iconst (v := 5) C dX9_forget_3 (by decide) ?_
  refine b_icmp_ge C 20 dX9_forget_4 (by decide) (show (0 : Int32).toInt = 0 by decide) (show (5 : Int32).toInt = 5 by decide) (fun c1 => absurd c1 (by decide)) (fun c1 => ?_)
  refine v_aload_n C 0 dX9_forget_7 rfl rfl ?_
  refine v_getr C 68 dX9_forget_8 fX9_57 (by omega) h68 rfl rfl ?_
  refine v_iload_n C 1 dX9_forget_11 rfl rfl ?_
  refine v_iconst (v := 0) C dX9_forget_12 (by decide) ?_
  refine v_zast C 79 dX9_forget_13 (by omega) h79 (ti_in (show (0 : Int32).toInt = 0 by decide) (by omega) (by omega)) rfl (fun E2 hE2_79 oE2 => ?_)
  rw [ti_cl (show (0 : Int32).toInt = 0 by decide), show Int.toNat 0 = 0 by omega] at hE2_79
  have hE2_68 := (oE2 68 (by decide)).trans h68
  refine v_iinc (v := 1) (lv' := [(0, .ref (ad 68)), (1, .int 1)]) C 1 [1, 0] dX9_forget_14 rfl (by decide) (by decide) rfl ?_
  refine v_goto C 2 dX9_forget_17 (by decide) ?_
  refine v_iload_n C 1 dX9_forget_2 rfl rfl ?_
  refine v_iconst (v := 5) C dX9_forget_3 (by decide) ?_
  refine b_icmp_ge C 20 dX9_forget_4 (by decide) (show (1 : Int32).toInt = 1 by decide) (show (5 : Int32).toInt = 5 by decide) (fun c3 => absurd c3 (by decide)) (fun c3 => ?_)
  refine v_aload_n C 0 dX9_forget_7 rfl rfl ?_
  refine v_getr C 68 dX9_forget_8 fX9_57 (by omega) hE2_68 rfl rfl ?_
  refine v_iload_n C 1 dX9_forget_11 rfl rfl ?_
  refine v_iconst (v := 0) C dX9_forget_12 (by decide) ?_
  refine v_zast C 79 dX9_forget_13 (by omega) hE2_79 (ti_in (show (1 : Int32).toInt = 1 by decide) (by omega) (by omega)) rfl (fun E4 hE4_79 oE4 => ?_)
  rw [ti_cl (show (1 : Int32).toInt = 1 by decide), show Int.toNat 1 = 1 by omega] at hE4_79
  have hE4_68 := (oE4 68 (by decide)).trans hE2_68
  refine v_iinc (v := 2) (lv' := [(0, .ref (ad 68)), (1, .int 2)]) C 1 [1, 0] dX9_forget_14 rfl (by decide) (by decide) rfl ?_
  refine v_goto C 2 dX9_forget_17 (by decide) ?_
  refine v_iload_n C 1 dX9_forget_2 rfl rfl ?_
  refine v_iconst (v := 5) C dX9_forget_3 (by decide) ?_
  refine b_icmp_ge C 20 dX9_forget_4 (by decide) (show (2 : Int32).toInt = 2 by decide) (show (5 : Int32).toInt = 5 by decide) (fun c5 => absurd c5 (by decide)) (fun c5 => ?_)
  refine v_aload_n C 0 dX9_forget_7 rfl rfl ?_
  refine v_getr C 68 dX9_forget_8 fX9_57 (by omega) hE4_68 rfl rfl ?_
  refine v_iload_n C 1 dX9_forget_11 rfl rfl ?_
  refine v_iconst (v := 0) C dX9_forget_12 (by decide) ?_
  refine v_zast C 79 dX9_forget_13 (by omega) hE4_79 (ti_in (show (2 : Int32).toInt = 2 by decide) (by omega) (by omega)) rfl (fun E6 hE6_79 oE6 => ?_)
  rw [ti_cl (show (2 : Int32).toInt = 2 by decide), show Int.toNat 2 = 2 by omega] at hE6_79
  have hE6_68 := (oE6 68 (by decide)).trans hE4_68
  refine v_iinc (v := 3) (lv' := [(0, .ref (ad 68)), (1, .int 3)]) C 1 [1, 0] dX9_forget_14 rfl (by decide) (by decide) rfl ?_
  refine v_goto C 2 dX9_forget_17 (by decide) ?_
  refine v_iload_n C 1 dX9_forget_2 rfl rfl ?_
  refine v_iconst (v := 5) C dX9_forget_3 (by decide) ?_
  refine b_icmp_ge C 20 dX9_forget_4 (by decide) (show (3 : Int32).toInt = 3 by decide) (show (5 : Int32).toInt = 5 by decide) (fun c7 => absurd c7 (by decide)) (fun c7 => ?_)
  refine v_aload_n C 0 dX9_forget_7 rfl rfl ?_
  refine v_getr C 68 dX9_forget_8 fX9_57 (by omega) hE6_68 rfl rfl ?_
  refine v_iload_n C 1 dX9_forget_11 rfl rfl ?_
  refine v_iconst (v := 0) C dX9_forget_12 (by decide) ?_
  refine v_zast C 79 dX9_forget_13 (by omega) hE6_79 (ti_in (show (3 : Int32).toInt = 3 by decide) (by omega) (by omega)) rfl (fun E8 hE8_79 oE8 => ?_)
  rw [ti_cl (show (3 : Int32).toInt = 3 by decide), show Int.toNat 3 = 3 by omega] at hE8_79
  have hE8_68 := (oE8 68 (by decide)).trans hE6_68
  refine v_iinc (v := 4) (lv' := [(0, .ref (ad 68)), (1, .int 4)]) C 1 [1, 0] dX9_forget_14 rfl (by decide) (by decide) rfl ?_
  refine v_goto C 2 dX9_forget_17 (by decide) ?_
  refine v_iload_n C 1 dX9_forget_2 rfl rfl ?_
  refine v_iconst (v := 5) C dX9_forget_3 (by decide) ?_
  refine b_icmp_ge C 20 dX9_forget_4 (by decide) (show (4 : Int32).toInt = 4 by decide) (show (5 : Int32).toInt = 5 by decide) (fun c9 => absurd c9 (by decide)) (fun c9 => ?_)
  refine v_aload_n C 0 dX9_forget_7 rfl rfl ?_
  refine v_getr C 68 dX9_forget_8 fX9_57 (by omega) hE8_68 rfl rfl ?_
  refine v_iload_n C 1 dX9_forget_11 rfl rfl ?_
  refine v_iconst (v := 0) C dX9_forget_12 (by decide) ?_
  refine v_zast C 79 dX9_forget_13 (by omega) hE8_79 (ti_in (show (4 : Int32).toInt = 4 by decide) (by omega) (by omega)) rfl (fun E10 hE10_79 oE10 => ?_)
  rw [ti_cl (show (4 : Int32).toInt = 4 by decide), show Int.toNat 4 = 4 by omega] at hE10_79
  have hE10_68 := (oE10 68 (by decide)).trans hE8_68
  refine v_iinc (v := 5) (lv' := [(0, .ref (ad 68)), (1, .int 5)]) C 1 [1, 0] dX9_forget_14 rfl (by decide) (by decide) rfl ?_
  refine v_goto C 2 dX9_forget_17 (by decide) ?_
  refine v_iload_n C 1 dX9_forget_2 rfl rfl ?_
  refine v_iconst (v := 5) C dX9_forget_3 (by decide) ?_
  refine b_icmp_ge C 20 dX9_forget_4 (by decide) (show (5 : Int32).toInt = 5 by decide) (show (5 : Int32).toInt = 5 by decide) (fun c11 => ?_) (fun c11 => absurd c11 (by decide))
  refine v_vret C dX9_forget_20 rfl ⟨_, hE10_79, fun k hk => ?_, fun k hk => ?_, fun j h79 => ((oE10 j h79).trans ((oE8 j h79).trans ((oE6 j h79).trans ((oE4 j h79).trans (oE2 j h79)))))⟩
  · rcases (show k = 0 ∨ k = 1 ∨ k = 2 ∨ k = 3 ∨ k = 4 by omega) with rfl | rfl | rfl | rfl | rfl <;> simp [upd]
  · simp only [upd, if_neg (show ¬ k = 0 by omega), if_neg (show ¬ k = 1 by omega), if_neg (show ¬ k = 2 by omega), if_neg (show ¬ k = 3 by omega), if_neg (show ¬ k = 4 by omega)]

set_option maxRecDepth 20000 in
theorem e_today (l : Launch) (G : Gl) (n : Nat) (ad : Nat → Nat) (E : Nat → va_E) (hn : 98 ≤ n) {im : Nat → Int32} (h68 : E 68 = ob 9 (rX9 ad) im) (d : Int32)  : CtI l G yX9_today cX9_today 3 .int 1 22 n ad E [.ref (ad 68), .int d] (fun r E' => (¬ ((im 17).toInt ≤ d.toInt ∧ d.toInt ≤ 99999) ∧ r.toInt = -1 ∧ E = E') ∨ (((im 17).toInt ≤ d.toInt ∧ d.toInt ≤ 99999) ∧ r = im 17 ∧ E' 68 = ob 9 (rX9 ad) (va_up im 17 d) ∧ ∀ j, j ≠ 68 → E' j = E j)) := by
  refine CtI.of (by decide) (Nat.le_of_ble_eq_true rfl) (fun X A C => ?_)
  refine v_sub (lv' := [(0, .ref (ad 68)), (1, .int d)]) [0, 1] rfl ?_
  refine v_iload_n C 1 dX9_today_0 rfl rfl ?_
  refine v_aload_n C 0 dX9_today_1 rfl rfl ?_
  refine v_geti (v := im 17) C 68 dX9_today_2 fX9_165 (by omega) h68 rfl rfl ?_
  refine v_ldc C dX9_today_5 kX9_53 ?_
  refine v_cSp C dX9_today_7 lX9_131 mX9_within (d_within l G n ad _ d (im 17) 99999) ⟨by decide, by decide⟩ rfl (Nat.le_of_ble_eq_true rfl) ⟨Nat.zero_le _, Nat.zero_le _⟩ (fun r1 hp2 => ?_)
  rw [(show (99999 : Int32).toInt = 99999 by decide)] at hp2
  rcases hp2 with ⟨rfl, hp2⟩ | ⟨rfl, hp2⟩
  · refine b_if_ne C 15 dX9_today_10 (by decide) (show (1 : Int32).toInt = 1 by decide) (fun c3 => ?_) (fun c3 => absurd c3 (by decide))
    refine v_aload_n C 0 dX9_today_15 rfl rfl ?_
    refine v_geti (v := im 17) C 68 dX9_today_16 fX9_165 (by omega) h68 rfl rfl ?_
    refine v_istore_n (lv' := [(0, .ref (ad 68)), (1, .int d), (2, .int (im 17))]) C [1, 2, 0] dX9_today_19 rfl (by decide) rfl ?_
    refine v_aload_n C 0 dX9_today_20 rfl rfl ?_
    refine v_iload_n C 1 dX9_today_21 rfl rfl ?_
    refine v_puti C 68 dX9_today_22 fX9_165 (by omega) h68 rfl rfl rfl rfl (fun E4 hE4_68 oE4 => ?_)
    refine v_iload_n C 2 dX9_today_25 rfl rfl ?_
    exact v_ret C dX9_today_26 rfl rfl (Or.inr ⟨by omega, rfl, hE4_68, fun j h => (oE4 j h)⟩)
  · refine b_if_ne C 15 dX9_today_10 (by decide) (show (0 : Int32).toInt = 0 by decide) (fun c5 => absurd c5 (by decide)) (fun c5 => ?_)
    refine v_iconst (v := (-1)) C dX9_today_13 (by decide) ?_
    exact v_ret C dX9_today_14 rfl rfl (Or.inl ⟨by omega, by decide, rfl⟩)

set_option maxRecDepth 20000 in
theorem e_known (l : Launch) (G : Gl) (n : Nat) (ad : Nat → Nat) (E : Nat → va_E) (hn : 98 ≤ n) {im : Nat → Int32} (h68 : E 68 = ob 9 (rX9 ad) im) {fz : Nat → Int32} (h79 : E 79 = aZ G 5 fz) (k : Int32)  : CtI l G yX9_known cX9_known 3 .int 1 22 n ad E [.ref (ad 68), .int k] (fun r E' => (¬ (0 ≤ k.toInt ∧ k.toInt ≤ 99999) ∧ r.toInt = -1 ∧ E = E') ∨ ((0 ≤ k.toInt ∧ k.toInt ≤ 99999) ∧ r = im 18 ∧ E' 68 = ob 9 (rX9 ad) (va_up im 18 k) ∧ (∃ fz2 : Nat → Int32, E' 79 = aZ G 5 fz2 ∧ (∀ q, q < 5 → fz2 q = 0) ∧ ∀ q, 5 ≤ q → fz2 q = fz q) ∧ ∀ j, j ≠ 68 → j ≠ 79 → E' j = E j)) := by
  refine CtI.of (by decide) (Nat.le_of_ble_eq_true rfl) (fun X A C => ?_)
  refine v_sub (lv' := [(0, .ref (ad 68)), (1, .int k)]) [0, 1] rfl ?_
  refine v_iload_n C 1 dX9_known_0 rfl rfl ?_
  refine v_iconst (v := 0) C dX9_known_1 (by decide) ?_
  refine v_ldc C dX9_known_2 kX9_53 ?_
  refine v_cSp C dX9_known_4 lX9_131 mX9_within (d_within l G n ad _ k 0 99999) ⟨by decide, by decide⟩ rfl (Nat.le_of_ble_eq_true rfl) ⟨Nat.zero_le _, Nat.zero_le _⟩ (fun r1 hp2 => ?_)
  rw [(show (0 : Int32).toInt = 0 by decide)] at hp2
  rw [(show (99999 : Int32).toInt = 99999 by decide)] at hp2
  rcases hp2 with ⟨rfl, hp2⟩ | ⟨rfl, hp2⟩
  · refine b_if_ne C 12 dX9_known_7 (by decide) (show (1 : Int32).toInt = 1 by decide) (fun c3 => ?_) (fun c3 => absurd c3 (by decide))
    refine v_aload_n C 0 dX9_known_12 rfl rfl ?_
    refine v_geti (v := im 18) C 68 dX9_known_13 fX9_54 (by omega) h68 rfl rfl ?_
    refine v_istore_n (lv' := [(0, .ref (ad 68)), (1, .int k), (2, .int (im 18))]) C [1, 2, 0] dX9_known_16 rfl (by decide) rfl ?_
    refine v_aload_n C 0 dX9_known_17 rfl rfl ?_
    refine v_iload_n C 1 dX9_known_18 rfl rfl ?_
    refine v_puti C 68 dX9_known_19 fX9_54 (by omega) h68 rfl rfl rfl rfl (fun E4 hE4_68 oE4 => ?_)
    have hE4_79 := (oE4 79 (by decide)).trans h79
    refine v_aload_n C 0 dX9_known_22 rfl rfl ?_
    refine v_cVv C dX9_known_23 lX9_159 mX9_forget 68 (by omega) hE4_68 (by decide) rfl (e_forget l G n ad _ hn hE4_68 hE4_79) ⟨by decide, by decide⟩ rfl (Nat.le_of_ble_eq_true rfl) ⟨Nat.zero_le _, Nat.zero_le _⟩ (fun E5 hq6 => ?_)
    obtain ⟨fz2, hz2, hz3, hz4, hOz⟩ := hq6
    have hE5_68 := (hOz 68 (by decide)).trans hE4_68
    refine v_iload_n C 2 dX9_known_26 rfl rfl ?_
    exact v_ret C dX9_known_27 rfl rfl (Or.inr ⟨by omega, rfl, hE5_68, ⟨fz2, hz2, hz3, hz4⟩, fun j h h9 => ((hOz j h9).trans (oE4 j h))⟩)
  · refine b_if_ne C 12 dX9_known_7 (by decide) (show (0 : Int32).toInt = 0 by decide) (fun c7 => absurd c7 (by decide)) (fun c7 => ?_)
    refine v_iconst (v := (-1)) C dX9_known_10 (by decide) ?_
    exact v_ret C dX9_known_11 rfl rfl (Or.inl ⟨by omega, by decide, rfl⟩)

set_option maxRecDepth 20000 in
theorem e_month (l : Launch) (G : Gl) (n : Nat) (ad : Nat → Nat) (E : Nat → va_E) (hn : 98 ≤ n) {im : Nat → Int32} (h68 : E 68 = ob 9 (rX9 ad) im) {md : Nat → Int32} (h69 : E 69 = aI G 12 md) (m : Int32) (d : Int32)  : CtI l G yX9_month cX9_month 4 .int 1 22 n ad E [.ref (ad 68), .int m, .int d] (fun r E' => (¬ (0 ≤ m.toInt ∧ m.toInt < 12 ∧ 1 ≤ d.toInt ∧ d.toInt ≤ 40) ∧ r.toInt = -1 ∧ E = E') ∨ ((0 ≤ m.toInt ∧ m.toInt < 12 ∧ 1 ≤ d.toInt ∧ d.toInt ≤ 40) ∧ 0 < (im 16).toInt ∧ r.toInt = -3 ∧ E = E') ∨ ((0 ≤ m.toInt ∧ m.toInt < 12 ∧ 1 ≤ d.toInt ∧ d.toInt ≤ 40) ∧ ¬ 0 < (im 16).toInt ∧ r = md (Int.toNat m.toInt) ∧ E' 68 = ob 9 (rX9 ad) (va_up im 7 0) ∧ E' 69 = aI G 12 (upd md (Int.toNat m.toInt) d) ∧ ∀ j, j ≠ 68 → j ≠ 69 → E' j = E j)) := by
  refine CtI.of (by decide) (Nat.le_of_ble_eq_true rfl) (fun X A C => ?_)
  refine v_sub (lv' := [(0, .ref (ad 68)), (1, .int m), (2, .int d)]) [0, 1, 2] rfl ?_
  refine v_iload_n C 1 dX9_month_0 rfl rfl ?_
  refine v_iconst (v := 0) C dX9_month_1 (by decide) ?_
  refine v_bipush (v := 11) C dX9_month_2 (by decide) ?_
  refine v_cSp C dX9_month_4 lX9_131 mX9_within (d_within l G n ad _ m 0 11) ⟨by decide, by decide⟩ rfl (Nat.le_of_ble_eq_true rfl) ⟨Nat.zero_le _, Nat.zero_le _⟩ (fun r1 hp2 => ?_)
  rw [(show (0 : Int32).toInt = 0 by decide)] at hp2
  rw [(show (11 : Int32).toInt = 11 by decide)] at hp2
  rcases hp2 with ⟨rfl, hp2⟩ | ⟨rfl, hp2⟩
  · refine b_if_eq C 20 dX9_month_7 (by decide) (show (1 : Int32).toInt = 1 by decide) (fun c3 => absurd c3 (by decide)) (fun c3 => ?_)
    refine v_iload_n C 2 dX9_month_10 rfl rfl ?_
    refine v_iconst (v := 1) C dX9_month_11 (by decide) ?_
    refine v_bipush (v := 40) C dX9_month_12 (by decide) ?_
    refine v_cSp C dX9_month_14 lX9_131 mX9_within (d_within l G n ad _ d 1 40) ⟨by decide, by decide⟩ rfl (Nat.le_of_ble_eq_true rfl) ⟨Nat.zero_le _, Nat.zero_le _⟩ (fun r4 hp5 => ?_)
    rw [(show (1 : Int32).toInt = 1 by decide)] at hp5
    rw [(show (40 : Int32).toInt = 40 by decide)] at hp5
    rcases hp5 with ⟨rfl, hp5⟩ | ⟨rfl, hp5⟩
    · refine b_if_ne C 22 dX9_month_17 (by decide) (show (1 : Int32).toInt = 1 by decide) (fun c6 => ?_) (fun c6 => absurd c6 (by decide))
      refine v_aload_n C 0 dX9_month_22 rfl rfl ?_
      refine v_geti (v := im 16) C 68 dX9_month_23 fX9_135 (by omega) h68 rfl rfl ?_
      refine b_if_le C 32 dX9_month_26 (by decide) (rfl : Int32.toInt (im 16) = _) (fun c7 => ?_) (fun c7 => ?_)
      · refine v_aload_n C 0 dX9_month_32 rfl rfl ?_
        refine v_getr C 68 dX9_month_33 fX9_9 (by omega) h68 rfl rfl ?_
        refine v_iload_n C 1 dX9_month_36 rfl rfl ?_
        refine v_ald (v := md (m.toInt).toNat) C 69 dX9_month_37 (by omega) h69 (ti_in (rfl : Int32.toInt m = _) (by omega) (by omega)) (by rw [ti_cl (rfl : Int32.toInt m = _)]) ?_
        refine v_istore_n (lv' := [(0, .ref (ad 68)), (1, .int m), (2, .int d), (3, .int (md (m.toInt).toNat))]) C [1, 2, 3, 0] dX9_month_38 rfl (by decide) rfl ?_
        refine v_aload_n C 0 dX9_month_39 rfl rfl ?_
        refine v_getr C 68 dX9_month_40 fX9_9 (by omega) h68 rfl rfl ?_
        refine v_iload_n C 1 dX9_month_43 rfl rfl ?_
        refine v_iload_n C 2 dX9_month_44 rfl rfl ?_
        refine v_ast C 69 dX9_month_45 (by omega) h69 (ti_in (rfl : Int32.toInt m = _) (by omega) (by omega)) (fun E8 hE8_69 oE8 => ?_)
        rw [ti_cl (rfl : Int32.toInt m = _)] at hE8_69
        have hE8_68 := (oE8 68 (by decide)).trans h68
        refine v_aload_n C 0 dX9_month_46 rfl rfl ?_
        refine v_iconst (v := 0) C dX9_month_47 (by decide) ?_
        refine v_puti C 68 dX9_month_48 fX9_116 (by omega) hE8_68 rfl rfl rfl rfl (fun E9 hE9_68 oE9 => ?_)
        have hE9_69 := (oE9 69 (by decide)).trans hE8_69
        refine v_iload_n C 3 dX9_month_51 rfl rfl ?_
        exact v_ret C dX9_month_52 rfl rfl (Or.inr (Or.inr ⟨by omega, by omega, rfl, hE9_68, hE9_69, fun j h h9 => ((oE9 j h).trans (oE8 j h9))⟩))
      · refine v_bipush (v := (-3)) C dX9_month_29 (by decide) ?_
        exact v_ret C dX9_month_31 rfl rfl (Or.inr (Or.inl ⟨by omega, by omega, by decide, rfl⟩))
    · refine b_if_ne C 22 dX9_month_17 (by decide) (show (0 : Int32).toInt = 0 by decide) (fun c10 => absurd c10 (by decide)) (fun c10 => ?_)
      refine v_iconst (v := (-1)) C dX9_month_20 (by decide) ?_
      exact v_ret C dX9_month_21 rfl rfl (Or.inl ⟨by omega, by decide, rfl⟩)
  · refine b_if_eq C 20 dX9_month_7 (by decide) (show (0 : Int32).toInt = 0 by decide) (fun c11 => ?_) (fun c11 => absurd c11 (by decide))
    refine v_iconst (v := (-1)) C dX9_month_20 (by decide) ?_
    exact v_ret C dX9_month_21 rfl rfl (Or.inl ⟨by omega, by decide, rfl⟩)

set_option maxRecDepth 20000 in
theorem e_leap (l : Launch) (G : Gl) (n : Nat) (ad : Nat → Nat) (E : Nat → va_E) (hn : 98 ≤ n) {im : Nat → Int32} (h68 : E 68 = ob 9 (rX9 ad) im) (a : Int32) (b : Int32) (m : Int32)  : CtI l G yX9_leap cX9_leap 4 .int 1 22 n ad E [.ref (ad 68), .int a, .int b, .int m] (fun r E' => (¬ (2 ≤ a.toInt ∧ a.toInt ≤ 50 ∧ 2 ≤ b.toInt ∧ b.toInt ≤ 100 ∧ 0 ≤ m.toInt ∧ m.toInt < 12) ∧ r.toInt = -1 ∧ E = E') ∨ ((2 ≤ a.toInt ∧ a.toInt ≤ 50 ∧ 2 ≤ b.toInt ∧ b.toInt ≤ 100 ∧ 0 ≤ m.toInt ∧ m.toInt < 12) ∧ 0 < (im 16).toInt ∧ r.toInt = -3 ∧ E = E') ∨ ((2 ≤ a.toInt ∧ a.toInt ≤ 50 ∧ 2 ≤ b.toInt ∧ b.toInt ≤ 100 ∧ 0 ≤ m.toInt ∧ m.toInt < 12) ∧ ¬ 0 < (im 16).toInt ∧ r.toInt = 1 ∧ E' 68 = ob 9 (rX9 ad) (va_up (va_up (va_up (va_up im 1 a) 2 b) 3 m) 7 0) ∧ ∀ j, j ≠ 68 → E' j = E j)) := by
  refine CtI.of (by decide) (Nat.le_of_ble_eq_true rfl) (fun X A C => ?_)
  refine v_sub (lv' := [(0, .ref (ad 68)), (1, .int a), (2, .int b), (3, .int m)]) [0, 1, 2, 3] rfl ?_
  refine v_iload_n C 1 dX9_leap_0 rfl rfl ?_
  refine v_iconst (v := 2) C dX9_leap_1 (by decide) ?_
  refine v_bipush (v := 50) C dX9_leap_2 (by decide) ?_
  refine v_cSp C dX9_leap_4 lX9_131 mX9_within (d_within l G n ad _ a 2 50) ⟨by decide, by decide⟩ rfl (Nat.le_of_ble_eq_true rfl) ⟨Nat.zero_le _, Nat.zero_le _⟩ (fun r1 hp2 => ?_)
  rw [(show (2 : Int32).toInt = 2 by decide)] at hp2
  rw [(show (50 : Int32).toInt = 50 by decide)] at hp2
  rcases hp2 with ⟨rfl, hp2⟩ | ⟨rfl, hp2⟩
  · refine b_if_eq C 30 dX9_leap_7 (by decide) (show (1 : Int32).toInt = 1 by decide) (fun c3 => absurd c3 (by decide)) (fun c3 => ?_)
    refine v_iload_n C 2 dX9_leap_10 rfl rfl ?_
    refine v_iconst (v := 2) C dX9_leap_11 (by decide) ?_
    refine v_bipush (v := 100) C dX9_leap_12 (by decide) ?_
    refine v_cSp C dX9_leap_14 lX9_131 mX9_within (d_within l G n ad _ b 2 100) ⟨by decide, by decide⟩ rfl (Nat.le_of_ble_eq_true rfl) ⟨Nat.zero_le _, Nat.zero_le _⟩ (fun r4 hp5 => ?_)
    rw [(show (2 : Int32).toInt = 2 by decide)] at hp5
    rw [(show (100 : Int32).toInt = 100 by decide)] at hp5
    rcases hp5 with ⟨rfl, hp5⟩ | ⟨rfl, hp5⟩
    · refine b_if_eq C 30 dX9_leap_17 (by decide) (show (1 : Int32).toInt = 1 by decide) (fun c6 => absurd c6 (by decide)) (fun c6 => ?_)
      refine v_iload_n C 3 dX9_leap_20 rfl rfl ?_
      refine v_iconst (v := 0) C dX9_leap_21 (by decide) ?_
      refine v_bipush (v := 11) C dX9_leap_22 (by decide) ?_
      refine v_cSp C dX9_leap_24 lX9_131 mX9_within (d_within l G n ad _ m 0 11) ⟨by decide, by decide⟩ rfl (Nat.le_of_ble_eq_true rfl) ⟨Nat.zero_le _, Nat.zero_le _⟩ (fun r7 hp8 => ?_)
      rw [(show (0 : Int32).toInt = 0 by decide)] at hp8
      rw [(show (11 : Int32).toInt = 11 by decide)] at hp8
      rcases hp8 with ⟨rfl, hp8⟩ | ⟨rfl, hp8⟩
      · refine b_if_ne C 32 dX9_leap_27 (by decide) (show (1 : Int32).toInt = 1 by decide) (fun c9 => ?_) (fun c9 => absurd c9 (by decide))
        refine v_aload_n C 0 dX9_leap_32 rfl rfl ?_
        refine v_geti (v := im 16) C 68 dX9_leap_33 fX9_135 (by omega) h68 rfl rfl ?_
        refine b_if_le C 42 dX9_leap_36 (by decide) (rfl : Int32.toInt (im 16) = _) (fun c10 => ?_) (fun c10 => ?_)
        · refine v_aload_n C 0 dX9_leap_42 rfl rfl ?_
          refine v_iload_n C 1 dX9_leap_43 rfl rfl ?_
          refine v_puti C 68 dX9_leap_44 fX9_13 (by omega) h68 rfl rfl rfl rfl (fun E11 hE11_68 oE11 => ?_)
          refine v_aload_n C 0 dX9_leap_47 rfl rfl ?_
          refine v_iload_n C 2 dX9_leap_48 rfl rfl ?_
          refine v_puti C 68 dX9_leap_49 fX9_17 (by omega) hE11_68 rfl rfl rfl rfl (fun E12 hE12_68 oE12 => ?_)
          refine v_aload_n C 0 dX9_leap_52 rfl rfl ?_
          refine v_iload_n C 3 dX9_leap_53 rfl rfl ?_
          refine v_puti C 68 dX9_leap_54 fX9_20 (by omega) hE12_68 rfl rfl rfl rfl (fun E13 hE13_68 oE13 => ?_)
          refine v_aload_n C 0 dX9_leap_57 rfl rfl ?_
          refine v_iconst (v := 0) C dX9_leap_58 (by decide) ?_
          refine v_puti C 68 dX9_leap_59 fX9_116 (by omega) hE13_68 rfl rfl rfl rfl (fun E14 hE14_68 oE14 => ?_)
          refine v_iconst (v := 1) C dX9_leap_62 (by decide) ?_
          exact v_ret C dX9_leap_63 rfl rfl (Or.inr (Or.inr ⟨by omega, by omega, by decide, hE14_68, fun j h => ((oE14 j h).trans ((oE13 j h).trans ((oE12 j h).trans (oE11 j h))))⟩))
        · refine v_bipush (v := (-3)) C dX9_leap_39 (by decide) ?_
          exact v_ret C dX9_leap_41 rfl rfl (Or.inr (Or.inl ⟨by omega, by omega, by decide, rfl⟩))
      · refine b_if_ne C 32 dX9_leap_27 (by decide) (show (0 : Int32).toInt = 0 by decide) (fun c15 => absurd c15 (by decide)) (fun c15 => ?_)
        refine v_iconst (v := (-1)) C dX9_leap_30 (by decide) ?_
        exact v_ret C dX9_leap_31 rfl rfl (Or.inl ⟨by omega, by decide, rfl⟩)
    · refine b_if_eq C 30 dX9_leap_17 (by decide) (show (0 : Int32).toInt = 0 by decide) (fun c16 => ?_) (fun c16 => absurd c16 (by decide))
      refine v_iconst (v := (-1)) C dX9_leap_30 (by decide) ?_
      exact v_ret C dX9_leap_31 rfl rfl (Or.inl ⟨by omega, by decide, rfl⟩)
  · refine b_if_eq C 30 dX9_leap_7 (by decide) (show (0 : Int32).toInt = 0 by decide) (fun c17 => ?_) (fun c17 => absurd c17 (by decide))
    refine v_iconst (v := (-1)) C dX9_leap_30 (by decide) ?_
    exact v_ret C dX9_leap_31 rfl rfl (Or.inl ⟨by omega, by decide, rfl⟩)

set_option maxRecDepth 20000 in
theorem e_week (l : Launch) (G : Gl) (n : Nat) (ad : Nat → Nat) (E : Nat → va_E) (hn : 98 ≤ n) {im : Nat → Int32} (h68 : E 68 = ob 9 (rX9 ad) im) (w : Int32) (f : Int32)  : CtI l G yX9_week cX9_week 3 .int 1 22 n ad E [.ref (ad 68), .int w, .int f] (fun r E' => (¬ (2 ≤ w.toInt ∧ w.toInt ≤ 10 ∧ 0 ≤ f.toInt ∧ f.toInt ≤ 9) ∧ r.toInt = -1 ∧ E = E') ∨ ((2 ≤ w.toInt ∧ w.toInt ≤ 10 ∧ 0 ≤ f.toInt ∧ f.toInt ≤ 9) ∧ 0 < (im 16).toInt ∧ r.toInt = -3 ∧ E = E') ∨ ((2 ≤ w.toInt ∧ w.toInt ≤ 10 ∧ 0 ≤ f.toInt ∧ f.toInt ≤ 9) ∧ ¬ 0 < (im 16).toInt ∧ r.toInt = 1 ∧ E' 68 = ob 9 (rX9 ad) (va_up (va_up im 4 w) 5 f) ∧ ∀ j, j ≠ 68 → E' j = E j)) := by
  refine CtI.of (by decide) (Nat.le_of_ble_eq_true rfl) (fun X A C => ?_)
  refine v_sub (lv' := [(0, .ref (ad 68)), (1, .int w), (2, .int f)]) [0, 1, 2] rfl ?_
  refine v_iload_n C 1 dX9_week_0 rfl rfl ?_
  refine v_iconst (v := 2) C dX9_week_1 (by decide) ?_
  refine v_bipush (v := 10) C dX9_week_2 (by decide) ?_
  refine v_cSp C dX9_week_4 lX9_131 mX9_within (d_within l G n ad _ w 2 10) ⟨by decide, by decide⟩ rfl (Nat.le_of_ble_eq_true rfl) ⟨Nat.zero_le _, Nat.zero_le _⟩ (fun r1 hp2 => ?_)
  rw [(show (2 : Int32).toInt = 2 by decide)] at hp2
  rw [(show (10 : Int32).toInt = 10 by decide)] at hp2
  rcases hp2 with ⟨rfl, hp2⟩ | ⟨rfl, hp2⟩
  · refine b_if_eq C 20 dX9_week_7 (by decide) (show (1 : Int32).toInt = 1 by decide) (fun c3 => absurd c3 (by decide)) (fun c3 => ?_)
    refine v_iload_n C 2 dX9_week_10 rfl rfl ?_
    refine v_iconst (v := 0) C dX9_week_11 (by decide) ?_
    refine v_bipush (v := 9) C dX9_week_12 (by decide) ?_
    refine v_cSp C dX9_week_14 lX9_131 mX9_within (d_within l G n ad _ f 0 9) ⟨by decide, by decide⟩ rfl (Nat.le_of_ble_eq_true rfl) ⟨Nat.zero_le _, Nat.zero_le _⟩ (fun r4 hp5 => ?_)
    rw [(show (0 : Int32).toInt = 0 by decide)] at hp5
    rw [(show (9 : Int32).toInt = 9 by decide)] at hp5
    rcases hp5 with ⟨rfl, hp5⟩ | ⟨rfl, hp5⟩
    · refine b_if_ne C 22 dX9_week_17 (by decide) (show (1 : Int32).toInt = 1 by decide) (fun c6 => ?_) (fun c6 => absurd c6 (by decide))
      refine v_aload_n C 0 dX9_week_22 rfl rfl ?_
      refine v_geti (v := im 16) C 68 dX9_week_23 fX9_135 (by omega) h68 rfl rfl ?_
      refine b_if_le C 32 dX9_week_26 (by decide) (rfl : Int32.toInt (im 16) = _) (fun c7 => ?_) (fun c7 => ?_)
      · refine v_aload_n C 0 dX9_week_32 rfl rfl ?_
        refine v_iload_n C 1 dX9_week_33 rfl rfl ?_
        refine v_puti C 68 dX9_week_34 fX9_23 (by omega) h68 rfl rfl rfl rfl (fun E8 hE8_68 oE8 => ?_)
        refine v_aload_n C 0 dX9_week_37 rfl rfl ?_
        refine v_iload_n C 2 dX9_week_38 rfl rfl ?_
        refine v_puti C 68 dX9_week_39 fX9_138 (by omega) hE8_68 rfl rfl rfl rfl (fun E9 hE9_68 oE9 => ?_)
        refine v_iconst (v := 1) C dX9_week_42 (by decide) ?_
        exact v_ret C dX9_week_43 rfl rfl (Or.inr (Or.inr ⟨by omega, by omega, by decide, hE9_68, fun j h => ((oE9 j h).trans (oE8 j h))⟩))
      · refine v_bipush (v := (-3)) C dX9_week_29 (by decide) ?_
        exact v_ret C dX9_week_31 rfl rfl (Or.inr (Or.inl ⟨by omega, by omega, by decide, rfl⟩))
    · refine b_if_ne C 22 dX9_week_17 (by decide) (show (0 : Int32).toInt = 0 by decide) (fun c10 => absurd c10 (by decide)) (fun c10 => ?_)
      refine v_iconst (v := (-1)) C dX9_week_20 (by decide) ?_
      exact v_ret C dX9_week_21 rfl rfl (Or.inl ⟨by omega, by decide, rfl⟩)
  · refine b_if_eq C 20 dX9_week_7 (by decide) (show (0 : Int32).toInt = 0 by decide) (fun c11 => ?_) (fun c11 => absurd c11 (by decide))
    refine v_iconst (v := (-1)) C dX9_week_20 (by decide) ?_
    exact v_ret C dX9_week_21 rfl rfl (Or.inl ⟨by omega, by decide, rfl⟩)

set_option maxRecDepth 20000 in
theorem e_zone (l : Launch) (G : Gl) (n : Nat) (ad : Nat → Nat) (E : Nat → va_E) (hn : 98 ≤ n) {im : Nat → Int32} (h68 : E 68 = ob 9 (rX9 ad) im) {fz fv : Nat → Int32} (h79 : E 79 = aZ G 5 fz) (h71 : E 71 = aI G 5 fv) (hz0 : 0 ≤ (im 16).toInt ∧ (im 16).toInt ≤ 5) (v : Int32)  : CtI l G yX9_zone cX9_zone 2 .int 1 22 n ad E [.ref (ad 68), .int v] (fun r E' => (¬ (-720 ≤ v.toInt ∧ v.toInt ≤ 720) ∧ r.toInt = -1 ∧ E = E') ∨ ((-720 ≤ v.toInt ∧ v.toInt ≤ 720) ∧ (im 16).toInt = 5 ∧ r.toInt = -2 ∧ E = E') ∨ ((-720 ≤ v.toInt ∧ v.toInt ≤ 720) ∧ (im 16).toInt ≠ 5 ∧ r.toInt = (im 16).toInt ∧ ∃ x : Int32, x.toInt = (im 16).toInt + 1 ∧ E' 68 = ob 9 (rX9 ad) (va_up im 16 x) ∧ E' 71 = aI G 5 (upd fv (im 16).toInt.toNat v) ∧ (∃ fz2 : Nat → Int32, E' 79 = aZ G 5 fz2 ∧ (∀ q, q < 5 → fz2 q = 0) ∧ ∀ q, 5 ≤ q → fz2 q = fz q) ∧ ∀ j, j ≠ 68 → j ≠ 71 → j ≠ 79 → E' j = E j)) := by
  refine CtI.of (by decide) (Nat.le_of_ble_eq_true rfl) (fun X A C => ?_)
  refine v_sub (lv' := [(0, .ref (ad 68)), (1, .int v)]) [0, 1] rfl ?_
  refine v_iload_n C 1 dX9_zone_0 rfl rfl ?_
  refine v_sipush (v := (-720)) C dX9_zone_1 (by decide) ?_
  refine v_sipush (v := 720) C dX9_zone_4 (by decide) ?_
  refine v_cSp C dX9_zone_7 lX9_131 mX9_within (d_within l G n ad _ v (-720) 720) ⟨by decide, by decide⟩ rfl (Nat.le_of_ble_eq_true rfl) ⟨Nat.zero_le _, Nat.zero_le _⟩ (fun r1 hp2 => ?_)
  rw [(show ((-720) : Int32).toInt = (-720) by decide)] at hp2
  rw [(show (720 : Int32).toInt = 720 by decide)] at hp2
  rcases hp2 with ⟨rfl, hp2⟩ | ⟨rfl, hp2⟩
  · refine b_if_ne C 15 dX9_zone_10 (by decide) (show (1 : Int32).toInt = 1 by decide) (fun c3 => ?_) (fun c3 => absurd c3 (by decide))
    refine v_aload_n C 0 dX9_zone_15 rfl rfl ?_
    refine v_geti (v := im 16) C 68 dX9_zone_16 fX9_135 (by omega) h68 rfl rfl ?_
    refine v_iconst (v := 5) C dX9_zone_19 (by decide) ?_
    refine b_icmp_ne C 26 dX9_zone_20 (by decide) (rfl : Int32.toInt (im 16) = _) (show (5 : Int32).toInt = 5 by decide) (fun c4 => ?_) (fun c4 => ?_)
    · refine v_aload_n C 0 dX9_zone_26 rfl rfl ?_
      refine v_getr C 68 dX9_zone_27 fX9_29 (by omega) h68 rfl rfl ?_
      refine v_aload_n C 0 dX9_zone_30 rfl rfl ?_
      refine v_geti (v := im 16) C 68 dX9_zone_31 fX9_135 (by omega) h68 rfl rfl ?_
      refine v_iload_n C 1 dX9_zone_34 rfl rfl ?_
      refine v_ast C 71 dX9_zone_35 (by omega) h71 (ti_in (rfl : Int32.toInt (im 16) = _) (by omega) (by omega)) (fun E5 hE5_71 oE5 => ?_)
      rw [ti_cl (rfl : Int32.toInt (im 16) = _)] at hE5_71
      have hE5_68 := (oE5 68 (by decide)).trans h68
      have hE5_79 := (oE5 79 (by decide)).trans h79
      refine v_aload_n C 0 dX9_zone_36 rfl rfl ?_
      refine v_dup C dX9_zone_37 rfl ?_
      refine v_geti (v := im 16) C 68 dX9_zone_38 fX9_135 (by omega) hE5_68 rfl rfl ?_
      refine v_iconst (v := 1) C dX9_zone_41 (by decide) ?_
      refine v_iadd C dX9_zone_42 ?_
      refine v_top (fun x6 ex6 => ?_)
      have hx6 : x6.toInt = ((im 16).toInt + 1) := by rw [ex6]; exact ti_add (rfl : Int32.toInt (im 16) = _) (show (1 : Int32).toInt = 1 by decide) (by omega) (by omega)
      refine v_puti C 68 dX9_zone_43 fX9_135 (by omega) hE5_68 rfl rfl rfl rfl (fun E7 hE7_68 oE7 => ?_)
      have hE7_79 := (oE7 79 (by decide)).trans hE5_79
      have hE7_71 := (oE7 71 (by decide)).trans hE5_71
      refine v_aload_n C 0 dX9_zone_46 rfl rfl ?_
      refine v_cVv C dX9_zone_47 lX9_159 mX9_forget 68 (by omega) hE7_68 (by decide) rfl (e_forget l G n ad _ hn hE7_68 hE7_79) ⟨by decide, by decide⟩ rfl (Nat.le_of_ble_eq_true rfl) ⟨Nat.zero_le _, Nat.zero_le _⟩ (fun E8 hq9 => ?_)
      obtain ⟨fz2, hz2, hz3, hz4, hOz⟩ := hq9
      have hE8_68 := (hOz 68 (by decide)).trans hE7_68
      have hE8_71 := (hOz 71 (by decide)).trans hE7_71
      refine v_aload_n C 0 dX9_zone_50 rfl rfl ?_
      refine v_geti (v := x6) C 68 dX9_zone_51 fX9_135 (by omega) hE8_68 rfl rfl ?_
      refine v_iconst (v := 1) C dX9_zone_54 (by decide) ?_
      refine v_isub C dX9_zone_55 ?_
      refine v_top (fun x10 ex10 => ?_)
      have hx10 : x10.toInt = (((im 16).toInt + 1) - 1) := by rw [ex10]; exact ti_sub hx6 (show (1 : Int32).toInt = 1 by decide) (by omega) (by omega)
      exact v_ret C dX9_zone_56 rfl rfl (Or.inr (Or.inr ⟨by omega, by omega, (by rw [hx10]; omega), x6, hx6, hE8_68, hE8_71, ⟨fz2, hz2, hz3, hz4⟩, fun j h h7 h9 => ((hOz j h9).trans ((oE7 j h).trans (oE5 j h7)))⟩))
    · refine v_bipush (v := (-2)) C dX9_zone_23 (by decide) ?_
      exact v_ret C dX9_zone_25 rfl rfl (Or.inr (Or.inl ⟨by omega, by omega, by decide, rfl⟩))
  · refine b_if_ne C 15 dX9_zone_10 (by decide) (show (0 : Int32).toInt = 0 by decide) (fun c11 => absurd c11 (by decide)) (fun c11 => ?_)
    refine v_iconst (v := (-1)) C dX9_zone_13 (by decide) ?_
    exact v_ret C dX9_zone_14 rfl rfl (Or.inl ⟨by omega, by decide, rfl⟩)

set_option maxRecDepth 20000 in
theorem e_clear (l : Launch) (G : Gl) (n : Nat) (ad : Nat → Nat) (E : Nat → va_E) (hn : 98 ≤ n) {im : Nat → Int32} (h68 : E 68 = ob 9 (rX9 ad) im) {fl : Nat → Int32} (h88 : E 88 = aI G 6 fl) (p : Int32)  : CtI l G yX9_clear cX9_clear 3 .int 2 42 n ad E [.ref (ad 68), .int p] (fun r E' => (¬ (0 ≤ p.toInt ∧ p.toInt < 6) ∧ r.toInt = -1 ∧ E = E') ∨ ((0 ≤ p.toInt ∧ p.toInt < 6) ∧ r = fl p.toInt.toNat ∧ E' 88 = aI G 6 (upd fl p.toInt.toNat 0) ∧ ∀ j, j ≠ 88 → E' j = E j)) := by
  refine CtI.of (by decide) (Nat.le_of_ble_eq_true rfl) (fun X A C => ?_)
  refine v_sub (lv' := [(0, .ref (ad 68)), (1, .int p)]) [0, 1] rfl ?_
  refine v_iload_n C 1 dX9_clear_0 rfl rfl ?_
  refine v_cSp C dX9_clear_1 lX9_194 mX9_isProgram (e_isProgram l G n ad _ p) ⟨by decide, by decide⟩ rfl (Nat.le_of_ble_eq_true rfl) ⟨Nat.zero_le _, Nat.zero_le _⟩ (fun r1 hp2 => ?_)
  rcases hp2 with ⟨rfl, hp2⟩ | ⟨rfl, hp2⟩
  · refine b_if_ne C 9 dX9_clear_4 (by decide) (show (1 : Int32).toInt = 1 by decide) (fun c3 => ?_) (fun c3 => absurd c3 (by decide))
    refine v_aload_n C 0 dX9_clear_9 rfl rfl ?_
    refine v_getr C 68 dX9_clear_10 fX9_85 (by omega) h68 rfl rfl ?_
    refine v_iload_n C 1 dX9_clear_13 rfl rfl ?_
    refine v_ald (v := fl (p.toInt).toNat) C 88 dX9_clear_14 (by omega) h88 (ti_in (rfl : Int32.toInt p = _) (by omega) (by omega)) (by rw [ti_cl (rfl : Int32.toInt p = _)]) ?_
    refine v_istore_n (lv' := [(0, .ref (ad 68)), (1, .int p), (2, .int (fl (p.toInt).toNat))]) C [1, 2, 0] dX9_clear_15 rfl (by decide) rfl ?_
    refine v_aload_n C 0 dX9_clear_16 rfl rfl ?_
    refine v_getr C 68 dX9_clear_17 fX9_85 (by omega) h68 rfl rfl ?_
    refine v_iload_n C 1 dX9_clear_20 rfl rfl ?_
    refine v_iconst (v := 0) C dX9_clear_21 (by decide) ?_
    refine v_ast C 88 dX9_clear_22 (by omega) h88 (ti_in (rfl : Int32.toInt p = _) (by omega) (by omega)) (fun E4 hE4_88 oE4 => ?_)
    rw [ti_cl (rfl : Int32.toInt p = _)] at hE4_88
    have hE4_68 := (oE4 68 (by decide)).trans h68
    refine v_iload_n C 2 dX9_clear_23 rfl rfl ?_
    exact v_ret C dX9_clear_24 rfl rfl (Or.inr ⟨by omega, rfl, hE4_88, fun j h => (oE4 j h)⟩)
  · refine b_if_ne C 9 dX9_clear_4 (by decide) (show (0 : Int32).toInt = 0 by decide) (fun c5 => absurd c5 (by decide)) (fun c5 => ?_)
    refine v_iconst (v := (-1)) C dX9_clear_7 (by decide) ?_
    exact v_ret C dX9_clear_8 rfl rfl (Or.inl ⟨by omega, by decide, rfl⟩)

abbrev okLn (k : Int) (op x y : Int) : Prop := ((op = 0 ∨ op = 2 ∨ op = 8 ∨ op = 9 ∨ op = 10 ∨ op = 11) ∧ x = 0 ∧ y = 0) ∨ (op = 1 ∧ 0 ≤ x ∧ x < k ∧ y = 0) ∨ (op = 3 ∧ 0 ≤ x ∧ x ≤ 1439 ∧ y = 0) ∨ (op = 4 ∧ 0 ≤ x ∧ x < k ∧ 0 ≤ y ∧ y ≤ 1) ∨ (op = 5 ∧ -9999 ≤ x ∧ x ≤ 9999 ∧ y = 0) ∨ (op = 6 ∧ -999 ≤ x ∧ x ≤ 999 ∧ y = 0) ∨ (op = 7 ∧ -99 ≤ x ∧ x ≤ 99 ∧ 0 ≤ y ∧ y ≤ 2)
set_option maxRecDepth 20000 in
theorem e_mayStand (l : Launch) (G : Gl) (n : Nat) (ad : Nat → Nat) (E : Nat → va_E) (hn : 98 ≤ n) {im : Nat → Int32} (h68 : E 68 = ob 9 (rX9 ad) im) (q : Int32) (x : Int32) (y : Int32)  : CtI l G yX9_mayStand cX9_mayStand 4 .boolean 1 22 n ad E [.ref (ad 68), .int q, .int x, .int y] (fun r E' => ((r = 1 ∧ (okLn (im 16).toInt q.toInt x.toInt y.toInt)) ∨ (r = 0 ∧ ¬ (okLn (im 16).toInt q.toInt x.toInt y.toInt))) ∧ E = E') := by
  refine CtI.of (by decide) (Nat.le_of_ble_eq_true rfl) (fun X A C => ?_)
  refine v_sub (lv' := [(0, .ref (ad 68)), (1, .int q), (2, .int x), (3, .int y)]) [0, 1, 2, 3] rfl ?_
  refine v_iload_n C 1 dX9_mayStand_0 rfl rfl ?_
  have q1v : Int32.toInt q = q.toInt := (rfl : Int32.toInt q = _)
  rcases (show q.toInt = 1 ∨ q.toInt = 2 ∨ q.toInt = 3 ∨ q.toInt = 4 ∨ q.toInt = 5 ∨ q.toInt = 6 ∨ q.toInt = 7 ∨ (q.toInt < 1 ∨ 7 < q.toInt) by omega) with q1 | q1 | q1 | q1 | q1 | q1 | q1 | q1
  · refine v_tableIn (off := 43) C 44 dX9_mayStand_1 (by omega) (by omega) (by rw [q1v, q1]; rfl) (by decide) ?_
    refine v_aload_n C 0 dX9_mayStand_44 rfl rfl ?_
    refine v_iload_n C 2 dX9_mayStand_45 rfl rfl ?_
    refine v_cVp C dX9_mayStand_46 lX9_162 mX9_isZone 68 (by omega) h68 (by decide) rfl (e_isZone l G n ad _ hn h68 x) ⟨by decide, by decide⟩ rfl (Nat.le_of_ble_eq_true rfl) ⟨Nat.zero_le _, Nat.zero_le _⟩ (fun r2 hp3 => ?_)
    rcases hp3 with ⟨rfl, hp3⟩ | ⟨rfl, hp3⟩
    · refine b_if_eq C 60 dX9_mayStand_49 (by decide) (show (1 : Int32).toInt = 1 by decide) (fun c4 => absurd c4 (by decide)) (fun c4 => ?_)
      refine v_iload_n C 3 dX9_mayStand_52 rfl rfl ?_
      refine b_if_ne C 60 dX9_mayStand_53 (by decide) (rfl : Int32.toInt y = _) (fun c5 => ?_) (fun c5 => ?_)
      · refine v_iconst (v := 0) C dX9_mayStand_60 (by decide) ?_
        exact v_ret C dX9_mayStand_61 rfl rfl ⟨Or.inr ⟨rfl, by unfold okLn; omega⟩, rfl⟩
      · refine v_iconst (v := 1) C dX9_mayStand_56 (by decide) ?_
        refine v_goto C 61 dX9_mayStand_57 (by decide) ?_
        exact v_ret C dX9_mayStand_61 rfl rfl ⟨Or.inl ⟨rfl, by unfold okLn; omega⟩, rfl⟩
    · refine b_if_eq C 60 dX9_mayStand_49 (by decide) (show (0 : Int32).toInt = 0 by decide) (fun c6 => ?_) (fun c6 => absurd c6 (by decide))
      refine v_iconst (v := 0) C dX9_mayStand_60 (by decide) ?_
      exact v_ret C dX9_mayStand_61 rfl rfl ⟨Or.inr ⟨rfl, by unfold okLn; omega⟩, rfl⟩
  · refine v_tableIn (off := 177) C 178 dX9_mayStand_1 (by omega) (by omega) (by rw [q1v, q1]; rfl) (by decide) ?_
    refine v_iload_n C 1 dX9_mayStand_178 rfl rfl ?_
    refine v_iconst (v := 0) C dX9_mayStand_179 (by decide) ?_
    refine v_bipush (v := 11) C dX9_mayStand_180 (by decide) ?_
    refine v_cSp C dX9_mayStand_182 lX9_131 mX9_within (d_within l G n ad _ q 0 11) ⟨by decide, by decide⟩ rfl (Nat.le_of_ble_eq_true rfl) ⟨Nat.zero_le _, Nat.zero_le _⟩ (fun r7 hp8 => ?_)
    rw [(show (0 : Int32).toInt = 0 by decide)] at hp8
    rw [(show (11 : Int32).toInt = 11 by decide)] at hp8
    rcases hp8 with ⟨rfl, hp8⟩ | ⟨rfl, hp8⟩
    · refine b_if_eq C 200 dX9_mayStand_185 (by decide) (show (1 : Int32).toInt = 1 by decide) (fun c9 => absurd c9 (by decide)) (fun c9 => ?_)
      refine v_iload_n C 2 dX9_mayStand_188 rfl rfl ?_
      refine b_if_ne C 200 dX9_mayStand_189 (by decide) (rfl : Int32.toInt x = _) (fun c10 => ?_) (fun c10 => ?_)
      · refine v_iconst (v := 0) C dX9_mayStand_200 (by decide) ?_
        exact v_ret C dX9_mayStand_201 rfl rfl ⟨Or.inr ⟨rfl, by unfold okLn; omega⟩, rfl⟩
      · refine v_iload_n C 3 dX9_mayStand_192 rfl rfl ?_
        refine b_if_ne C 200 dX9_mayStand_193 (by decide) (rfl : Int32.toInt y = _) (fun c11 => ?_) (fun c11 => ?_)
        · refine v_iconst (v := 0) C dX9_mayStand_200 (by decide) ?_
          exact v_ret C dX9_mayStand_201 rfl rfl ⟨Or.inr ⟨rfl, by unfold okLn; omega⟩, rfl⟩
        · refine v_iconst (v := 1) C dX9_mayStand_196 (by decide) ?_
          refine v_goto C 201 dX9_mayStand_197 (by decide) ?_
          exact v_ret C dX9_mayStand_201 rfl rfl ⟨Or.inl ⟨rfl, by unfold okLn; omega⟩, rfl⟩
    · refine b_if_eq C 200 dX9_mayStand_185 (by decide) (show (0 : Int32).toInt = 0 by decide) (fun c12 => ?_) (fun c12 => absurd c12 (by decide))
      refine v_iconst (v := 0) C dX9_mayStand_200 (by decide) ?_
      exact v_ret C dX9_mayStand_201 rfl rfl ⟨Or.inr ⟨rfl, by unfold okLn; omega⟩, rfl⟩
  · refine v_tableIn (off := 61) C 62 dX9_mayStand_1 (by omega) (by omega) (by rw [q1v, q1]; rfl) (by decide) ?_
    refine v_iload_n C 2 dX9_mayStand_62 rfl rfl ?_
    refine v_iconst (v := 0) C dX9_mayStand_63 (by decide) ?_
    refine v_sipush (v := 1439) C dX9_mayStand_64 (by decide) ?_
    refine v_cSp C dX9_mayStand_67 lX9_131 mX9_within (d_within l G n ad _ x 0 1439) ⟨by decide, by decide⟩ rfl (Nat.le_of_ble_eq_true rfl) ⟨Nat.zero_le _, Nat.zero_le _⟩ (fun r13 hp14 => ?_)
    rw [(show (0 : Int32).toInt = 0 by decide)] at hp14
    rw [(show (1439 : Int32).toInt = 1439 by decide)] at hp14
    rcases hp14 with ⟨rfl, hp14⟩ | ⟨rfl, hp14⟩
    · refine b_if_eq C 81 dX9_mayStand_70 (by decide) (show (1 : Int32).toInt = 1 by decide) (fun c15 => absurd c15 (by decide)) (fun c15 => ?_)
      refine v_iload_n C 3 dX9_mayStand_73 rfl rfl ?_
      refine b_if_ne C 81 dX9_mayStand_74 (by decide) (rfl : Int32.toInt y = _) (fun c16 => ?_) (fun c16 => ?_)
      · refine v_iconst (v := 0) C dX9_mayStand_81 (by decide) ?_
        exact v_ret C dX9_mayStand_82 rfl rfl ⟨Or.inr ⟨rfl, by unfold okLn; omega⟩, rfl⟩
      · refine v_iconst (v := 1) C dX9_mayStand_77 (by decide) ?_
        refine v_goto C 82 dX9_mayStand_78 (by decide) ?_
        exact v_ret C dX9_mayStand_82 rfl rfl ⟨Or.inl ⟨rfl, by unfold okLn; omega⟩, rfl⟩
    · refine b_if_eq C 81 dX9_mayStand_70 (by decide) (show (0 : Int32).toInt = 0 by decide) (fun c17 => ?_) (fun c17 => absurd c17 (by decide))
      refine v_iconst (v := 0) C dX9_mayStand_81 (by decide) ?_
      exact v_ret C dX9_mayStand_82 rfl rfl ⟨Or.inr ⟨rfl, by unfold okLn; omega⟩, rfl⟩
  · refine v_tableIn (off := 82) C 83 dX9_mayStand_1 (by omega) (by omega) (by rw [q1v, q1]; rfl) (by decide) ?_
    refine v_aload_n C 0 dX9_mayStand_83 rfl rfl ?_
    refine v_iload_n C 2 dX9_mayStand_84 rfl rfl ?_
    refine v_cVp C dX9_mayStand_85 lX9_162 mX9_isZone 68 (by omega) h68 (by decide) rfl (e_isZone l G n ad _ hn h68 x) ⟨by decide, by decide⟩ rfl (Nat.le_of_ble_eq_true rfl) ⟨Nat.zero_le _, Nat.zero_le _⟩ (fun r18 hp19 => ?_)
    rcases hp19 with ⟨rfl, hp19⟩ | ⟨rfl, hp19⟩
    · refine b_if_eq C 104 dX9_mayStand_88 (by decide) (show (1 : Int32).toInt = 1 by decide) (fun c20 => absurd c20 (by decide)) (fun c20 => ?_)
      refine v_iload_n C 3 dX9_mayStand_91 rfl rfl ?_
      refine v_iconst (v := 0) C dX9_mayStand_92 (by decide) ?_
      refine v_iconst (v := 1) C dX9_mayStand_93 (by decide) ?_
      refine v_cSp C dX9_mayStand_94 lX9_131 mX9_within (d_within l G n ad _ y 0 1) ⟨by decide, by decide⟩ rfl (Nat.le_of_ble_eq_true rfl) ⟨Nat.zero_le _, Nat.zero_le _⟩ (fun r21 hp22 => ?_)
      rw [(show (0 : Int32).toInt = 0 by decide)] at hp22
      rw [(show (1 : Int32).toInt = 1 by decide)] at hp22
      rcases hp22 with ⟨rfl, hp22⟩ | ⟨rfl, hp22⟩
      · refine b_if_eq C 104 dX9_mayStand_97 (by decide) (show (1 : Int32).toInt = 1 by decide) (fun c23 => absurd c23 (by decide)) (fun c23 => ?_)
        refine v_iconst (v := 1) C dX9_mayStand_100 (by decide) ?_
        refine v_goto C 105 dX9_mayStand_101 (by decide) ?_
        exact v_ret C dX9_mayStand_105 rfl rfl ⟨Or.inl ⟨rfl, by unfold okLn; omega⟩, rfl⟩
      · refine b_if_eq C 104 dX9_mayStand_97 (by decide) (show (0 : Int32).toInt = 0 by decide) (fun c24 => ?_) (fun c24 => absurd c24 (by decide))
        refine v_iconst (v := 0) C dX9_mayStand_104 (by decide) ?_
        exact v_ret C dX9_mayStand_105 rfl rfl ⟨Or.inr ⟨rfl, by unfold okLn; omega⟩, rfl⟩
    · refine b_if_eq C 104 dX9_mayStand_88 (by decide) (show (0 : Int32).toInt = 0 by decide) (fun c25 => ?_) (fun c25 => absurd c25 (by decide))
      refine v_iconst (v := 0) C dX9_mayStand_104 (by decide) ?_
      exact v_ret C dX9_mayStand_105 rfl rfl ⟨Or.inr ⟨rfl, by unfold okLn; omega⟩, rfl⟩
  · refine v_tableIn (off := 105) C 106 dX9_mayStand_1 (by omega) (by omega) (by rw [q1v, q1]; rfl) (by decide) ?_
    refine v_iload_n C 2 dX9_mayStand_106 rfl rfl ?_
    refine v_sipush (v := (-9999)) C dX9_mayStand_107 (by decide) ?_
    refine v_sipush (v := 9999) C dX9_mayStand_110 (by decide) ?_
    refine v_cSp C dX9_mayStand_113 lX9_131 mX9_within (d_within l G n ad _ x (-9999) 9999) ⟨by decide, by decide⟩ rfl (Nat.le_of_ble_eq_true rfl) ⟨Nat.zero_le _, Nat.zero_le _⟩ (fun r26 hp27 => ?_)
    rw [(show ((-9999) : Int32).toInt = (-9999) by decide)] at hp27
    rw [(show (9999 : Int32).toInt = 9999 by decide)] at hp27
    rcases hp27 with ⟨rfl, hp27⟩ | ⟨rfl, hp27⟩
    · refine b_if_eq C 127 dX9_mayStand_116 (by decide) (show (1 : Int32).toInt = 1 by decide) (fun c28 => absurd c28 (by decide)) (fun c28 => ?_)
      refine v_iload_n C 3 dX9_mayStand_119 rfl rfl ?_
      refine b_if_ne C 127 dX9_mayStand_120 (by decide) (rfl : Int32.toInt y = _) (fun c29 => ?_) (fun c29 => ?_)
      · refine v_iconst (v := 0) C dX9_mayStand_127 (by decide) ?_
        exact v_ret C dX9_mayStand_128 rfl rfl ⟨Or.inr ⟨rfl, by unfold okLn; omega⟩, rfl⟩
      · refine v_iconst (v := 1) C dX9_mayStand_123 (by decide) ?_
        refine v_goto C 128 dX9_mayStand_124 (by decide) ?_
        exact v_ret C dX9_mayStand_128 rfl rfl ⟨Or.inl ⟨rfl, by unfold okLn; omega⟩, rfl⟩
    · refine b_if_eq C 127 dX9_mayStand_116 (by decide) (show (0 : Int32).toInt = 0 by decide) (fun c30 => ?_) (fun c30 => absurd c30 (by decide))
      refine v_iconst (v := 0) C dX9_mayStand_127 (by decide) ?_
      exact v_ret C dX9_mayStand_128 rfl rfl ⟨Or.inr ⟨rfl, by unfold okLn; omega⟩, rfl⟩
  · refine v_tableIn (off := 128) C 129 dX9_mayStand_1 (by omega) (by omega) (by rw [q1v, q1]; rfl) (by decide) ?_
    refine v_iload_n C 2 dX9_mayStand_129 rfl rfl ?_
    refine v_sipush (v := (-999)) C dX9_mayStand_130 (by decide) ?_
    refine v_sipush (v := 999) C dX9_mayStand_133 (by decide) ?_
    refine v_cSp C dX9_mayStand_136 lX9_131 mX9_within (d_within l G n ad _ x (-999) 999) ⟨by decide, by decide⟩ rfl (Nat.le_of_ble_eq_true rfl) ⟨Nat.zero_le _, Nat.zero_le _⟩ (fun r31 hp32 => ?_)
    rw [(show ((-999) : Int32).toInt = (-999) by decide)] at hp32
    rw [(show (999 : Int32).toInt = 999 by decide)] at hp32
    rcases hp32 with ⟨rfl, hp32⟩ | ⟨rfl, hp32⟩
    · refine b_if_eq C 150 dX9_mayStand_139 (by decide) (show (1 : Int32).toInt = 1 by decide) (fun c33 => absurd c33 (by decide)) (fun c33 => ?_)
      refine v_iload_n C 3 dX9_mayStand_142 rfl rfl ?_
      refine b_if_ne C 150 dX9_mayStand_143 (by decide) (rfl : Int32.toInt y = _) (fun c34 => ?_) (fun c34 => ?_)
      · refine v_iconst (v := 0) C dX9_mayStand_150 (by decide) ?_
        exact v_ret C dX9_mayStand_151 rfl rfl ⟨Or.inr ⟨rfl, by unfold okLn; omega⟩, rfl⟩
      · refine v_iconst (v := 1) C dX9_mayStand_146 (by decide) ?_
        refine v_goto C 151 dX9_mayStand_147 (by decide) ?_
        exact v_ret C dX9_mayStand_151 rfl rfl ⟨Or.inl ⟨rfl, by unfold okLn; omega⟩, rfl⟩
    · refine b_if_eq C 150 dX9_mayStand_139 (by decide) (show (0 : Int32).toInt = 0 by decide) (fun c35 => ?_) (fun c35 => absurd c35 (by decide))
      refine v_iconst (v := 0) C dX9_mayStand_150 (by decide) ?_
      exact v_ret C dX9_mayStand_151 rfl rfl ⟨Or.inr ⟨rfl, by unfold okLn; omega⟩, rfl⟩
  · refine v_tableIn (off := 151) C 152 dX9_mayStand_1 (by omega) (by omega) (by rw [q1v, q1]; rfl) (by decide) ?_
    refine v_iload_n C 2 dX9_mayStand_152 rfl rfl ?_
    refine v_bipush (v := (-99)) C dX9_mayStand_153 (by decide) ?_
    refine v_bipush (v := 99) C dX9_mayStand_155 (by decide) ?_
    refine v_cSp C dX9_mayStand_157 lX9_131 mX9_within (d_within l G n ad _ x (-99) 99) ⟨by decide, by decide⟩ rfl (Nat.le_of_ble_eq_true rfl) ⟨Nat.zero_le _, Nat.zero_le _⟩ (fun r36 hp37 => ?_)
    rw [(show ((-99) : Int32).toInt = (-99) by decide)] at hp37
    rw [(show (99 : Int32).toInt = 99 by decide)] at hp37
    rcases hp37 with ⟨rfl, hp37⟩ | ⟨rfl, hp37⟩
    · refine b_if_eq C 176 dX9_mayStand_160 (by decide) (show (1 : Int32).toInt = 1 by decide) (fun c38 => absurd c38 (by decide)) (fun c38 => ?_)
      refine v_iload_n C 3 dX9_mayStand_163 rfl rfl ?_
      refine v_iconst (v := 0) C dX9_mayStand_164 (by decide) ?_
      refine v_iconst (v := 2) C dX9_mayStand_165 (by decide) ?_
      refine v_cSp C dX9_mayStand_166 lX9_131 mX9_within (d_within l G n ad _ y 0 2) ⟨by decide, by decide⟩ rfl (Nat.le_of_ble_eq_true rfl) ⟨Nat.zero_le _, Nat.zero_le _⟩ (fun r39 hp40 => ?_)
      rw [(show (0 : Int32).toInt = 0 by decide)] at hp40
      rw [(show (2 : Int32).toInt = 2 by decide)] at hp40
      rcases hp40 with ⟨rfl, hp40⟩ | ⟨rfl, hp40⟩
      · refine b_if_eq C 176 dX9_mayStand_169 (by decide) (show (1 : Int32).toInt = 1 by decide) (fun c41 => absurd c41 (by decide)) (fun c41 => ?_)
        refine v_iconst (v := 1) C dX9_mayStand_172 (by decide) ?_
        refine v_goto C 177 dX9_mayStand_173 (by decide) ?_
        exact v_ret C dX9_mayStand_177 rfl rfl ⟨Or.inl ⟨rfl, by unfold okLn; omega⟩, rfl⟩
      · refine b_if_eq C 176 dX9_mayStand_169 (by decide) (show (0 : Int32).toInt = 0 by decide) (fun c42 => ?_) (fun c42 => absurd c42 (by decide))
        refine v_iconst (v := 0) C dX9_mayStand_176 (by decide) ?_
        exact v_ret C dX9_mayStand_177 rfl rfl ⟨Or.inr ⟨rfl, by unfold okLn; omega⟩, rfl⟩
    · refine b_if_eq C 176 dX9_mayStand_160 (by decide) (show (0 : Int32).toInt = 0 by decide) (fun c43 => ?_) (fun c43 => absurd c43 (by decide))
      refine v_iconst (v := 0) C dX9_mayStand_176 (by decide) ?_
      exact v_ret C dX9_mayStand_177 rfl rfl ⟨Or.inr ⟨rfl, by unfold okLn; omega⟩, rfl⟩
  · refine v_tableOut C 178 dX9_mayStand_1 (by omega) (by decide) ?_
    refine v_iload_n C 1 dX9_mayStand_178 rfl rfl ?_
    refine v_iconst (v := 0) C dX9_mayStand_179 (by decide) ?_
    refine v_bipush (v := 11) C dX9_mayStand_180 (by decide) ?_
    refine v_cSp C dX9_mayStand_182 lX9_131 mX9_within (d_within l G n ad _ q 0 11) ⟨by decide, by decide⟩ rfl (Nat.le_of_ble_eq_true rfl) ⟨Nat.zero_le _, Nat.zero_le _⟩ (fun r44 hp45 => ?_)
    rw [(show (0 : Int32).toInt = 0 by decide)] at hp45
    rw [(show (11 : Int32).toInt = 11 by decide)] at hp45
    rcases hp45 with ⟨rfl, hp45⟩ | ⟨rfl, hp45⟩
    · refine b_if_eq C 200 dX9_mayStand_185 (by decide) (show (1 : Int32).toInt = 1 by decide) (fun c46 => absurd c46 (by decide)) (fun c46 => ?_)
      refine v_iload_n C 2 dX9_mayStand_188 rfl rfl ?_
      refine b_if_ne C 200 dX9_mayStand_189 (by decide) (rfl : Int32.toInt x = _) (fun c47 => ?_) (fun c47 => ?_)
      · refine v_iconst (v := 0) C dX9_mayStand_200 (by decide) ?_
        exact v_ret C dX9_mayStand_201 rfl rfl ⟨Or.inr ⟨rfl, by unfold okLn; omega⟩, rfl⟩
      · refine v_iload_n C 3 dX9_mayStand_192 rfl rfl ?_
        refine b_if_ne C 200 dX9_mayStand_193 (by decide) (rfl : Int32.toInt y = _) (fun c48 => ?_) (fun c48 => ?_)
        · refine v_iconst (v := 0) C dX9_mayStand_200 (by decide) ?_
          exact v_ret C dX9_mayStand_201 rfl rfl ⟨Or.inr ⟨rfl, by unfold okLn; omega⟩, rfl⟩
        · refine v_iconst (v := 1) C dX9_mayStand_196 (by decide) ?_
          refine v_goto C 201 dX9_mayStand_197 (by decide) ?_
          exact v_ret C dX9_mayStand_201 rfl rfl ⟨Or.inl ⟨rfl, by unfold okLn; omega⟩, rfl⟩
    · refine b_if_eq C 200 dX9_mayStand_185 (by decide) (show (0 : Int32).toInt = 0 by decide) (fun c49 => ?_) (fun c49 => absurd c49 (by decide))
      refine v_iconst (v := 0) C dX9_mayStand_200 (by decide) ?_
      exact v_ret C dX9_mayStand_201 rfl rfl ⟨Or.inr ⟨rfl, by unfold okLn; omega⟩, rfl⟩

set_option maxRecDepth 20000 in
theorem e_line (l : Launch) (G : Gl) (n : Nat) (ad : Nat → Nat) (E : Nat → va_E) (hn : 98 ≤ n) {im : Nat → Int32} (h68 : E 68 = ob 9 (rX9 ad) im) {gop gx gy fl : Nat → Int32} (h85 : E 85 = aI G 60 gop) (h86 : E 86 = aI G 60 gx) (h87 : E 87 = aI G 60 gy) (h88 : E 88 = aI G 6 fl) (p : Int32) (q : Int32) (x : Int32) (y : Int32) (hb : 0 ≤ (fl p.toInt.toNat).toInt ∧ (fl p.toInt.toNat).toInt ≤ 10)  : CtI l G yX9_line cX9_line 6 .int 2 45 n ad E [.ref (ad 68), .int p, .int q, .int x, .int y] (fun r E' => (¬ (0 ≤ p.toInt ∧ p.toInt < 6 ∧ okLn (im 16).toInt q.toInt x.toInt y.toInt) ∧ r.toInt = -1 ∧ E = E') ∨ ((0 ≤ p.toInt ∧ p.toInt < 6 ∧ okLn (im 16).toInt q.toInt x.toInt y.toInt) ∧ (fl p.toInt.toNat).toInt = 10 ∧ r.toInt = -2 ∧ E = E') ∨ ((0 ≤ p.toInt ∧ p.toInt < 6 ∧ okLn (im 16).toInt q.toInt x.toInt y.toInt) ∧ (fl p.toInt.toNat).toInt ≠ 10 ∧ r.toInt = (fl p.toInt.toNat).toInt ∧ ∃ z : Int32, z.toInt = (fl p.toInt.toNat).toInt + 1 ∧ E' 85 = aI G 60 (upd gop (10 * p.toInt.toNat + (fl p.toInt.toNat).toInt.toNat) q) ∧ E' 86 = aI G 60 (upd gx (10 * p.toInt.toNat + (fl p.toInt.toNat).toInt.toNat) x) ∧ E' 87 = aI G 60 (upd gy (10 * p.toInt.toNat + (fl p.toInt.toNat).toInt.toNat) y) ∧ E' 88 = aI G 6 (upd fl p.toInt.toNat z) ∧ ∀ j, j ≠ 85 → j ≠ 86 → j ≠ 87 → j ≠ 88 → E' j = E j)) := by
  refine CtI.of (by decide) (Nat.le_of_ble_eq_true rfl) (fun X A C => ?_)
  refine v_sub (lv' := [(0, .ref (ad 68)), (1, .int p), (2, .int q), (3, .int x), (4, .int y)]) [0, 1, 2, 3, 4] rfl ?_
  refine v_iload_n C 1 dX9_line_0 rfl rfl ?_
  refine v_cSp C dX9_line_1 lX9_194 mX9_isProgram (e_isProgram l G n ad _ p) ⟨by decide, by decide⟩ rfl (Nat.le_of_ble_eq_true rfl) ⟨Nat.zero_le _, Nat.zero_le _⟩ (fun r1 hp2 => ?_)
  rcases hp2 with ⟨rfl, hp2⟩ | ⟨rfl, hp2⟩
  · refine b_if_eq C 18 dX9_line_4 (by decide) (show (1 : Int32).toInt = 1 by decide) (fun c3 => absurd c3 (by decide)) (fun c3 => ?_)
    refine v_aload_n C 0 dX9_line_7 rfl rfl ?_
    refine v_iload_n C 2 dX9_line_8 rfl rfl ?_
    refine v_iload_n C 3 dX9_line_9 rfl rfl ?_
    refine v_iload C 4 dX9_line_10 rfl ?_
    refine v_cVp C dX9_line_12 lX9_197 mX9_mayStand 68 (by omega) h68 (by decide) rfl (e_mayStand l G n ad _ hn h68 q x y) ⟨by decide, by decide⟩ rfl (Nat.le_of_ble_eq_true rfl) ⟨Nat.zero_le _, Nat.zero_le _⟩ (fun r4 hp5 => ?_)
    rcases hp5 with ⟨rfl, hp5⟩ | ⟨rfl, hp5⟩
    · refine b_if_ne C 20 dX9_line_15 (by decide) (show (1 : Int32).toInt = 1 by decide) (fun c6 => ?_) (fun c6 => absurd c6 (by decide))
      refine v_aload_n C 0 dX9_line_20 rfl rfl ?_
      refine v_getr C 68 dX9_line_21 fX9_85 (by omega) h68 rfl rfl ?_
      refine v_iload_n C 1 dX9_line_24 rfl rfl ?_
      refine v_ald (v := fl (p.toInt).toNat) C 88 dX9_line_25 (by omega) h88 (ti_in (rfl : Int32.toInt p = _) (by omega) (by omega)) (by rw [ti_cl (rfl : Int32.toInt p = _)]) ?_
      refine v_bipush (v := 10) C dX9_line_26 (by decide) ?_
      refine b_icmp_ne C 34 dX9_line_28 (by decide) (rfl : Int32.toInt (fl (p.toInt).toNat) = _) (show (10 : Int32).toInt = 10 by decide) (fun c7 => ?_) (fun c7 => ?_)
      · refine v_bipush (v := 10) C dX9_line_34 (by decide) ?_
        refine v_iload_n C 1 dX9_line_36 rfl rfl ?_
        refine v_imul C dX9_line_37 ?_
        refine v_top (fun x8 ex8 => ?_)
        have hx8 : x8.toInt = (10 * p.toInt) := by rw [ex8]; exact ti_mul (show (10 : Int32).toInt = 10 by decide) (rfl : Int32.toInt p = _) (by omega) (by omega)
        refine v_aload_n C 0 dX9_line_38 rfl rfl ?_
        refine v_getr C 68 dX9_line_39 fX9_85 (by omega) h68 rfl rfl ?_
        refine v_iload_n C 1 dX9_line_42 rfl rfl ?_
        refine v_ald (v := fl (p.toInt).toNat) C 88 dX9_line_43 (by omega) h88 (ti_in (rfl : Int32.toInt p = _) (by omega) (by omega)) (by rw [ti_cl (rfl : Int32.toInt p = _)]) ?_
        refine v_iadd C dX9_line_44 ?_
        refine v_top (fun x9 ex9 => ?_)
        have hx9 : x9.toInt = ((10 * p.toInt) + (fl (p.toInt).toNat).toInt) := by rw [ex9]; exact ti_add hx8 (rfl : Int32.toInt (fl (p.toInt).toNat) = _) (by omega) (by omega)
        refine v_istore (lv' := [(0, .ref (ad 68)), (1, .int p), (2, .int q), (3, .int x), (4, .int y), (5, .int x9)]) C [1, 2, 3, 4, 5, 0] dX9_line_45 (by decide) rfl ?_
        refine v_aload_n C 0 dX9_line_47 rfl rfl ?_
        refine v_getr C 68 dX9_line_48 fX9_76 (by omega) h68 rfl rfl ?_
        refine v_iload C 5 dX9_line_51 rfl ?_
        refine v_iload_n C 2 dX9_line_53 rfl rfl ?_
        refine v_ast C 85 dX9_line_54 (by omega) h85 (ti_in hx9 (by omega) (by omega)) (fun E10 hE10_85 oE10 => ?_)
        rw [ti_cl hx9, show Int.toNat ((10 * p.toInt) + (fl (p.toInt).toNat).toInt) = 10 * p.toInt.toNat + (fl p.toInt.toNat).toInt.toNat by omega] at hE10_85
        have hE10_68 := (oE10 68 (by decide)).trans h68
        have hE10_86 := (oE10 86 (by decide)).trans h86
        have hE10_87 := (oE10 87 (by decide)).trans h87
        have hE10_88 := (oE10 88 (by decide)).trans h88
        refine v_aload_n C 0 dX9_line_55 rfl rfl ?_
        refine v_getr C 68 dX9_line_56 fX9_79 (by omega) hE10_68 rfl rfl ?_
        refine v_iload C 5 dX9_line_59 rfl ?_
        refine v_iload_n C 3 dX9_line_61 rfl rfl ?_
        refine v_ast C 86 dX9_line_62 (by omega) hE10_86 (ti_in hx9 (by omega) (by omega)) (fun E11 hE11_86 oE11 => ?_)
        rw [ti_cl hx9, show Int.toNat ((10 * p.toInt) + (fl (p.toInt).toNat).toInt) = 10 * p.toInt.toNat + (fl p.toInt.toNat).toInt.toNat by omega] at hE11_86
        have hE11_68 := (oE11 68 (by decide)).trans hE10_68
        have hE11_85 := (oE11 85 (by decide)).trans hE10_85
        have hE11_87 := (oE11 87 (by decide)).trans hE10_87
        have hE11_88 := (oE11 88 (by decide)).trans hE10_88
        refine v_aload_n C 0 dX9_line_63 rfl rfl ?_
        refine v_getr C 68 dX9_line_64 fX9_82 (by omega) hE11_68 rfl rfl ?_
        refine v_iload C 5 dX9_line_67 rfl ?_
        refine v_iload C 4 dX9_line_69 rfl ?_
        refine v_ast C 87 dX9_line_71 (by omega) hE11_87 (ti_in hx9 (by omega) (by omega)) (fun E12 hE12_87 oE12 => ?_)
        rw [ti_cl hx9, show Int.toNat ((10 * p.toInt) + (fl (p.toInt).toNat).toInt) = 10 * p.toInt.toNat + (fl p.toInt.toNat).toInt.toNat by omega] at hE12_87
        have hE12_68 := (oE12 68 (by decide)).trans hE11_68
        have hE12_85 := (oE12 85 (by decide)).trans hE11_85
        have hE12_86 := (oE12 86 (by decide)).trans hE11_86
        have hE12_88 := (oE12 88 (by decide)).trans hE11_88
        refine v_aload_n C 0 dX9_line_72 rfl rfl ?_
        refine v_getr C 68 dX9_line_73 fX9_85 (by omega) hE12_68 rfl rfl ?_
        refine v_iload_n C 1 dX9_line_76 rfl rfl ?_
        refine v_dup2_11 C dX9_line_77 rfl rfl ?_
        refine v_ald (v := fl (p.toInt).toNat) C 88 dX9_line_78 (by omega) hE12_88 (ti_in (rfl : Int32.toInt p = _) (by omega) (by omega)) (by rw [ti_cl (rfl : Int32.toInt p = _)]) ?_
        refine v_iconst (v := 1) C dX9_line_79 (by decide) ?_
        refine v_iadd C dX9_line_80 ?_
        refine v_top (fun x13 ex13 => ?_)
        have hx13 : x13.toInt = ((fl (p.toInt).toNat).toInt + 1) := by rw [ex13]; exact ti_add (rfl : Int32.toInt (fl (p.toInt).toNat) = _) (show (1 : Int32).toInt = 1 by decide) (by omega) (by omega)
        refine v_ast C 88 dX9_line_81 (by omega) hE12_88 (ti_in (rfl : Int32.toInt p = _) (by omega) (by omega)) (fun E14 hE14_88 oE14 => ?_)
        rw [ti_cl (rfl : Int32.toInt p = _)] at hE14_88
        have hE14_68 := (oE14 68 (by decide)).trans hE12_68
        have hE14_85 := (oE14 85 (by decide)).trans hE12_85
        have hE14_86 := (oE14 86 (by decide)).trans hE12_86
        have hE14_87 := (oE14 87 (by decide)).trans hE12_87
        refine v_aload_n C 0 dX9_line_82 rfl rfl ?_
        refine v_getr C 68 dX9_line_83 fX9_85 (by omega) hE14_68 rfl rfl ?_
        refine v_iload_n C 1 dX9_line_86 rfl rfl ?_
        refine v_ald (v := x13) C 88 dX9_line_87 (by omega) hE14_88 (ti_in (rfl : Int32.toInt p = _) (by omega) (by omega)) (by rw [ti_cl (rfl : Int32.toInt p = _), pk_us]) ?_
        refine v_iconst (v := 1) C dX9_line_88 (by decide) ?_
        refine v_isub C dX9_line_89 ?_
        refine v_top (fun x15 ex15 => ?_)
        have hx15 : x15.toInt = (((fl (p.toInt).toNat).toInt + 1) - 1) := by rw [ex15]; exact ti_sub hx13 (show (1 : Int32).toInt = 1 by decide) (by omega) (by omega)
        exact v_ret C dX9_line_90 rfl rfl (Or.inr (Or.inr ⟨⟨by omega, by omega, by assumption⟩, by omega, (by omega), x13, (by omega), hE14_85, hE14_86, hE14_87, hE14_88, fun j h5 h6 h7 h8 => ((oE14 j h8).trans ((oE12 j h7).trans ((oE11 j h6).trans (oE10 j h5))))⟩))
      · refine v_bipush (v := (-2)) C dX9_line_31 (by decide) ?_
        exact v_ret C dX9_line_33 rfl rfl (Or.inr (Or.inl ⟨⟨by omega, by omega, by assumption⟩, by omega, by decide, rfl⟩))
    · refine b_if_ne C 20 dX9_line_15 (by decide) (show (0 : Int32).toInt = 0 by decide) (fun c16 => absurd c16 (by decide)) (fun c16 => ?_)
      refine v_iconst (v := (-1)) C dX9_line_18 (by decide) ?_
      exact v_ret C dX9_line_19 rfl rfl (Or.inl ⟨(fun hq => absurd hq (by omega)), by decide, rfl⟩)
  · refine b_if_eq C 18 dX9_line_4 (by decide) (show (0 : Int32).toInt = 0 by decide) (fun c17 => ?_) (fun c17 => absurd c17 (by decide))
    refine v_iconst (v := (-1)) C dX9_line_18 (by decide) ?_
    exact v_ret C dX9_line_19 rfl rfl (Or.inl ⟨(fun hq => absurd hq (by omega)), by decide, rfl⟩)

