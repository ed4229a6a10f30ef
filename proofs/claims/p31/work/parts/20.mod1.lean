set_option maxRecDepth 20000 in
theorem d_daysOf (l : Launch) (G : Gl) (n : Nat) (ad : Nat → Nat) (E : Nat → va_E) (hn : 98 ≤ n) {im ic md : Nat → Int32} (hW : MCal G ad E im ic md) (y m : Int32) {yy mm : Nat} (hy : y.toInt = (yy : Int)) (hm : m.toInt = (mm : Int)) (hm2 : mm < 12)  : CtI l G yX9_daysOf cX9_daysOf 4 .int 0 0 n ad E [.ref (ad 68), .int y, .int m] (fun r E' => (r.toInt = DIf ic md yy mm) ∧ E = E') := by
  refine CtI.of (by decide) (Nat.le_of_ble_eq_true rfl) (fun X A C => ?_)
  obtain ⟨hic, hP, hM, h69, hk7, mf, h70, hf0, hcnt⟩ := id hW
  have q4 := hP.2.1
  have q5 := hP.2.2.1
  have q6 := hP.2.2.2.1
  have q7 := hP.2.2.2.2.1
  have q8 := hP.2.2.2.2.2
  refine v_sub (lv' := [(0, .ref (ad 68)), (1, .int y), (2, .int m)]) [0, 1, 2] rfl ?_
  have qm := hP.1 mm hm2
  refine v_iload_n C 1 dX9_daysOf_0 rfl rfl ?_
  refine v_aload_n C 0 dX9_daysOf_1 rfl rfl ?_
  refine v_geti (v := im 1) C 68 dX9_daysOf_2 fX9_13 (by omega) hM rfl rfl ?_
  refine v_irem C dX9_daysOf_5 (ti_ne (show (im 1).toInt = (ic 4).toInt by rw [← hic]; rfl) (show (0 : Int32).toInt = 0 by decide) (by omega)) ?_
  refine v_top (fun x1 ex1 => ?_)
  have hx1 : x1.toInt = ((yy : Int) % (ic 4).toInt) := by rw [ex1]; exact ti_rem hy (show (im 1).toInt = (ic 4).toInt by rw [← hic]; rfl) (by omega) (by omega)
  refine b_if_ne C 22 dX9_daysOf_6 (by decide) hx1 (fun c2 => ?_) (fun c2 => ?_)
  · refine v_iconst (v := 0) C dX9_daysOf_22 (by decide) ?_
    refine v_istore_n (lv' := [(0, .ref (ad 68)), (1, .int y), (2, .int m), (3, .int 0)]) C [1, 2, 3, 0] dX9_daysOf_23 rfl (by decide) rfl ?_
    refine v_aload_n C 0 dX9_daysOf_24 rfl rfl ?_
    refine v_getr C 68 dX9_daysOf_25 fX9_9 (by omega) hM rfl rfl ?_
    refine v_iload_n C 2 dX9_daysOf_28 rfl rfl ?_
    refine v_ald (v := md mm) C 69 dX9_daysOf_29 (by omega) h69 (ti_in hm (by omega) (by omega)) (by rw [ti_cl hm, show Int.toNat (mm : Int) = mm by omega]) ?_
    refine v_iload_n C 3 dX9_daysOf_30 rfl rfl ?_
    refine b_if_eq C 46 dX9_daysOf_31 (by decide) (show (0 : Int32).toInt = 0 by decide) (fun c3 => ?_) (fun c3 => absurd c3 (by decide))
    refine v_iconst (v := 0) C dX9_daysOf_46 (by decide) ?_
    refine v_iadd C dX9_daysOf_47 ?_
    refine v_top (fun x4 ex4 => ?_)
    have hx4 : x4.toInt = ((md mm).toInt + 0) := by rw [ex4]; exact ti_add (rfl : Int32.toInt (md mm) = _) (show (0 : Int32).toInt = 0 by decide) (by omega) (by omega)
    exact v_ret C dX9_daysOf_48 rfl rfl ⟨by have hl : LPf (ic 4).toInt (ic 5).toInt yy = 0 := if_neg (by omega); unfold DIf; rw [hl]; have hx := hx4; split <;> omega, rfl⟩
  · refine v_iload_n C 1 dX9_daysOf_9 rfl rfl ?_
    refine v_aload_n C 0 dX9_daysOf_10 rfl rfl ?_
    refine v_geti (v := im 2) C 68 dX9_daysOf_11 fX9_17 (by omega) hM rfl rfl ?_
    refine v_irem C dX9_daysOf_14 (ti_ne (show (im 2).toInt = (ic 5).toInt by rw [← hic]; rfl) (show (0 : Int32).toInt = 0 by decide) (by omega)) ?_
    refine v_top (fun x5 ex5 => ?_)
    have hx5 : x5.toInt = ((yy : Int) % (ic 5).toInt) := by rw [ex5]; exact ti_rem hy (show (im 2).toInt = (ic 5).toInt by rw [← hic]; rfl) (by omega) (by omega)
    refine b_if_eq C 22 dX9_daysOf_15 (by decide) hx5 (fun c6 => ?_) (fun c6 => ?_)
    · refine v_iconst (v := 0) C dX9_daysOf_22 (by decide) ?_
      refine v_istore_n (lv' := [(0, .ref (ad 68)), (1, .int y), (2, .int m), (3, .int 0)]) C [1, 2, 3, 0] dX9_daysOf_23 rfl (by decide) rfl ?_
      refine v_aload_n C 0 dX9_daysOf_24 rfl rfl ?_
      refine v_getr C 68 dX9_daysOf_25 fX9_9 (by omega) hM rfl rfl ?_
      refine v_iload_n C 2 dX9_daysOf_28 rfl rfl ?_
      refine v_ald (v := md mm) C 69 dX9_daysOf_29 (by omega) h69 (ti_in hm (by omega) (by omega)) (by rw [ti_cl hm, show Int.toNat (mm : Int) = mm by omega]) ?_
      refine v_iload_n C 3 dX9_daysOf_30 rfl rfl ?_
      refine b_if_eq C 46 dX9_daysOf_31 (by decide) (show (0 : Int32).toInt = 0 by decide) (fun c7 => ?_) (fun c7 => absurd c7 (by decide))
      refine v_iconst (v := 0) C dX9_daysOf_46 (by decide) ?_
      refine v_iadd C dX9_daysOf_47 ?_
      refine v_top (fun x8 ex8 => ?_)
      have hx8 : x8.toInt = ((md mm).toInt + 0) := by rw [ex8]; exact ti_add (rfl : Int32.toInt (md mm) = _) (show (0 : Int32).toInt = 0 by decide) (by omega) (by omega)
      exact v_ret C dX9_daysOf_48 rfl rfl ⟨by have hl : LPf (ic 4).toInt (ic 5).toInt yy = 0 := if_neg (by omega); unfold DIf; rw [hl]; have hx := hx8; split <;> omega, rfl⟩
    · refine v_iconst (v := 1) C dX9_daysOf_18 (by decide) ?_
      refine v_goto C 23 dX9_daysOf_19 (by decide) ?_
      refine v_istore_n (lv' := [(0, .ref (ad 68)), (1, .int y), (2, .int m), (3, .int 1)]) C [1, 2, 3, 0] dX9_daysOf_23 rfl (by decide) rfl ?_
      refine v_aload_n C 0 dX9_daysOf_24 rfl rfl ?_
      refine v_getr C 68 dX9_daysOf_25 fX9_9 (by omega) hM rfl rfl ?_
      refine v_iload_n C 2 dX9_daysOf_28 rfl rfl ?_
      refine v_ald (v := md mm) C 69 dX9_daysOf_29 (by omega) h69 (ti_in hm (by omega) (by omega)) (by rw [ti_cl hm, show Int.toNat (mm : Int) = mm by omega]) ?_
      refine v_iload_n C 3 dX9_daysOf_30 rfl rfl ?_
      refine b_if_eq C 46 dX9_daysOf_31 (by decide) (show (1 : Int32).toInt = 1 by decide) (fun c9 => absurd c9 (by decide)) (fun c9 => ?_)
      refine v_iload_n C 2 dX9_daysOf_34 rfl rfl ?_
      refine v_aload_n C 0 dX9_daysOf_35 rfl rfl ?_
      refine v_geti (v := im 3) C 68 dX9_daysOf_36 fX9_20 (by omega) hM rfl rfl ?_
      refine b_icmp_ne C 46 dX9_daysOf_39 (by decide) hm (show (im 3).toInt = (ic 6).toInt by rw [← hic]; rfl) (fun c10 => ?_) (fun c10 => ?_)
      · refine v_iconst (v := 0) C dX9_daysOf_46 (by decide) ?_
        refine v_iadd C dX9_daysOf_47 ?_
        refine v_top (fun x11 ex11 => ?_)
        have hx11 : x11.toInt = ((md mm).toInt + 0) := by rw [ex11]; exact ti_add (rfl : Int32.toInt (md mm) = _) (show (0 : Int32).toInt = 0 by decide) (by omega) (by omega)
        exact v_ret C dX9_daysOf_48 rfl rfl ⟨by have hl : LPf (ic 4).toInt (ic 5).toInt yy = 1 := if_pos ⟨by omega, by omega⟩; unfold DIf; rw [hl]; have hx := hx11; split <;> omega, rfl⟩
      · refine v_iconst (v := 1) C dX9_daysOf_42 (by decide) ?_
        refine v_goto C 47 dX9_daysOf_43 (by decide) ?_
        refine v_iadd C dX9_daysOf_47 ?_
        refine v_top (fun x12 ex12 => ?_)
        have hx12 : x12.toInt = ((md mm).toInt + 1) := by rw [ex12]; exact ti_add (rfl : Int32.toInt (md mm) = _) (show (1 : Int32).toInt = 1 by decide) (by omega) (by omega)
        exact v_ret C dX9_daysOf_48 rfl rfl ⟨by have hl : LPf (ic 4).toInt (ic 5).toInt yy = 1 := if_pos ⟨by omega, by omega⟩; unfold DIf; rw [hl]; have hx := hx12; split <;> omega, rfl⟩

set_option maxRecDepth 20000 in
theorem lp_count {X : Mx} {l : Launch} {G : Gl} {A : Nat → Prop} {Q : State → Prop} {n : Nat} {ad : Nat → Nat} (C : Cx X l G A "OddHoursModel" cX9_countDays 2 none (rmx 1 23 0 0)) (hn : 98 ≤ n) {im ic md : Nat → Int32} (hic : icm im = ic) (hP : CalP ic md) (hk7 : im 7 = 0) (E0 : Nat → va_E) (h68 : E0 68 = ob 9 (rX9 ad) im) (h69 : E0 69 = aI G 12 md)
    (kont : ∀ (E : Nat → va_E) (mf : Nat → Int32) (x1 : Int32), E 70 = aI G 1201 mf → (∀ j, j < 1201 → (mf j).toInt = FKf ic md j) → (∀ j, j ≠ 70 → E j = E0 j) → V X G A 2 Q n ad 0 0 E 49 [(0, .ref (ad 68)), (1, .int x1)] []) :
    ∀ (t k : Nat) (E : Nat → va_E) (mf : Nat → Int32) (x1 : Int32), k + t = 1200 → x1.toInt = (k : Int) → E 70 = aI G 1201 mf → (∀ j, j < k + 1 → (mf j).toInt = FKf ic md j) → (∀ j, j ≠ 70 → E j = E0 j) → V X G A 2 Q n ad 0 0 E 9 [(0, .ref (ad 68)), (1, .int x1)] [] := by
  intro t
  induction t with
  | zero =>
    intro k E mf x1 hk hx1 h70 hi hfr
    have hM := (hfr 68 (by decide)).trans h68
    have h69 := (hfr 69 (by decide)).trans h69
    have hWk : MCal G ad E im ic md := ⟨hic, hP, hM, h69, Or.inl hk7, mf, h70, (hi 0 (by omega)).trans (FK_0 hP), fun h => by rw [hk7] at h; exact absurd h (by decide)⟩
    refine v_iload_n C 1 dX9_countDays_9 rfl rfl ?_
    refine v_sipush (v := 1200) C dX9_countDays_10 (by decide) ?_
    refine b_icmp_ge C 49 dX9_countDays_13 (by decide) hx1 (show (1200 : Int32).toInt = 1200 by decide) (fun c31 => ?_) (fun c31 => by exfalso; omega)
    exact kont E mf x1 h70 (fun j hj => hi j (by omega)) hfr
  | succ t ih =>
    intro k E mf x1 hk hx1 h70 hi hfr
    have hM := (hfr 68 (by decide)).trans h68
    have h69 := (hfr 69 (by decide)).trans h69
    have hWk : MCal G ad E im ic md := ⟨hic, hP, hM, h69, Or.inl hk7, mf, h70, (hi 0 (by omega)).trans (FK_0 hP), fun h => by rw [hk7] at h; exact absurd h (by decide)⟩
    refine v_iload_n C 1 dX9_countDays_9 rfl rfl ?_
    refine v_sipush (v := 1200) C dX9_countDays_10 (by decide) ?_
    refine b_icmp_ge C 49 dX9_countDays_13 (by decide) hx1 (show (1200 : Int32).toInt = 1200 by decide) (fun c31 => by exfalso; omega) (fun c31 => ?_)
    refine v_aload_n C 0 dX9_countDays_16 rfl rfl ?_
    refine v_getr C 68 dX9_countDays_17 fX9_26 (by omega) hM rfl rfl ?_
    refine v_iload_n C 1 dX9_countDays_20 rfl rfl ?_
    refine v_iconst (v := 1) C dX9_countDays_21 (by decide) ?_
    refine v_iadd C dX9_countDays_22 ?_
    refine v_top (fun x32 ex32 => ?_)
    have hx32 : x32.toInt = ((k : Int) + 1) := by rw [ex32]; exact ti_add hx1 (show (1 : Int32).toInt = 1 by decide) (by omega) (by omega)
    refine v_aload_n C 0 dX9_countDays_23 rfl rfl ?_
    refine v_getr C 68 dX9_countDays_24 fX9_26 (by omega) hM rfl rfl ?_
    refine v_iload_n C 1 dX9_countDays_27 rfl rfl ?_
    have qk := hi k (by omega)
    have bF := FK_b hP (k := k) (by omega)
    have bL := LK_b hP k
    have eN := FK_next hP k
    unfold LKf at bL eN
    refine v_ald (v := mf k) C 70 dX9_countDays_28 (by omega) h70 (ti_in hx1 (by omega) (by omega)) (by rw [ti_cl hx1, show Int.toNat (k : Int) = k by omega]) ?_
    refine v_aload_n C 0 dX9_countDays_29 rfl rfl ?_
    refine v_iload_n C 1 dX9_countDays_30 rfl rfl ?_
    refine v_bipush (v := 12) C dX9_countDays_31 (by decide) ?_
    refine v_idiv C dX9_countDays_33 (by decide) ?_
    refine v_top (fun x33 ex33 => ?_)
    have hx33 : x33.toInt = ((k : Int) / 12) := by rw [ex33]; exact ti_div hx1 (show (12 : Int32).toInt = 12 by decide) (by omega) (by omega)
    refine v_iload_n C 1 dX9_countDays_34 rfl rfl ?_
    refine v_bipush (v := 12) C dX9_countDays_35 (by decide) ?_
    refine v_irem C dX9_countDays_37 (by decide) ?_
    refine v_top (fun x34 ex34 => ?_)
    have hx34 : x34.toInt = ((k : Int) % 12) := by rw [ex34]; exact ti_rem hx1 (show (12 : Int32).toInt = 12 by decide) (by omega) (by omega)
    refine v_cVp C dX9_countDays_38 lX9_120 mX9_daysOf 68 (by omega) hM (by decide) rfl (d_daysOf l G n ad _ hn hWk x33 x34 (show Int32.toInt x33 = ((k / 12 : Nat) : Int) by rw [hx33]; omega) (show Int32.toInt x34 = ((k % 12 : Nat) : Int) by rw [hx34]; omega) (by omega)) ⟨by decide, by decide⟩ rfl (Nat.le_of_ble_eq_true rfl) ⟨Nat.zero_le _, Nat.zero_le _⟩ (fun r35 hp36 => ?_)
    refine v_iadd C dX9_countDays_41 ?_
    refine v_top (fun x37 ex37 => ?_)
    have hx37 : x37.toInt = ((mf k).toInt + (DIf ic md (k / 12) (k % 12))) := by rw [ex37]; exact ti_add (rfl : Int32.toInt (mf k) = _) hp36 (by omega) (by omega)
    refine v_ast C 70 dX9_countDays_42 (by omega) h70 (ti_in hx32 (by omega) (by omega)) (fun E38 hE38_70 oE38 => ?_)
    rw [ti_cl hx32, show Int.toNat ((k : Int) + 1) = k + 1 by omega] at hE38_70
    have hE38_68 := (oE38 68 (by decide)).trans hM
    have hE38_69 := (oE38 69 (by decide)).trans h69
    obtain ⟨x39, ex39⟩ : ∃ y : Int32, y = x1 + 1 := ⟨_, rfl⟩
    have hx39 : x39.toInt = ((k : Int) + 1) := by rw [ex39]; exact ti_add hx1 (show (1 : Int32).toInt = 1 by decide) (by omega) (by omega)
    refine v_iinc (v := x39) (lv' := [(0, .ref (ad 68)), (1, .int x39)]) C 1 [1, 0] dX9_countDays_43 rfl (ex39.symm) (by decide) rfl ?_
    refine v_goto C 9 dX9_countDays_46 (by decide) ?_
    exact ih (k + 1) _ _ x39 (by omega) (by rw [hx39]; omega) hE38_70 (fun j hj => by by_cases h : j = k + 1; (subst h; rw [pk_us, eN]; omega); (rw [pk_un h]; exact hi j (by omega))) (fun j h => (oE38 j h).trans (hfr j h))

set_option maxRecDepth 20000 in
theorem d_countDays (l : Launch) (G : Gl) (n : Nat) (ad : Nat → Nat) (E : Nat → va_E) (hn : 98 ≤ n) {im ic md : Nat → Int32} (hW : MCal G ad E im ic md)  : CtV l G yX9_countDays cX9_countDays 2 1 23 n ad E [.ref (ad 68)] (fun E' => ∃ im' : Nat → Int32, (∀ k, k ≠ 7 → im' k = im k) ∧ im' 7 = 1 ∧ MCal G ad E' im' ic md ∧ ∀ j, j ≠ 68 → j ≠ 70 → E' j = E j) := by
  refine CtV.of (by decide) (Nat.le_of_ble_eq_true rfl) (fun X A C => ?_)
  obtain ⟨hic, hP, hM, h69, hk7, mf, h70, hf0, hcnt⟩ := id hW
  have q4 := hP.2.1
  have q5 := hP.2.2.1
  have q6 := hP.2.2.2.1
  have q7 := hP.2.2.2.2.1
  have q8 := hP.2.2.2.2.2
  refine v_sub (lv' := [(0, .ref (ad 68))]) [0] rfl ?_
  refine v_aload_n C 0 dX9_countDays_0 rfl rfl ?_
  refine v_geti (v := im 7) C 68 dX9_countDays_1 fX9_116 (by omega) hM rfl rfl ?_
  refine b_if_ne C 54 dX9_countDays_4 (by decide) (rfl : Int32.toInt (im 7) = _) (fun c1 => ?_) (fun c1 => ?_)
  · exact v_vret C dX9_countDays_54 rfl ⟨im, fun _ _ => rfl, (by rcases hk7 with h | h; (exfalso; rw [h] at c1; exact c1 (by decide)); exact h), hW, fun _ _ _ => rfl⟩
  · refine v_iconst (v := 0) C dX9_countDays_7 (by decide) ?_
    refine v_istore_n (lv' := [(0, .ref (ad 68)), (1, .int 0)]) C [1, 0] dX9_countDays_8 rfl (by decide) rfl ?_
    have hz : im 7 = 0 := by rcases hk7 with h | h; exact h; (exfalso; rw [h] at c1; revert c1; decide)
    refine lp_count C hn hic hP hz E hM h69 (fun E9 mf9 x9 h709 hF9 hfr9 => ?_) 1200 0 E mf 0 (by omega) (show (0 : Int32).toInt = 0 by decide) h70 (fun j hj => by rw [show j = 0 by omega, hf0, FK_0 hP]) (fun j _ => rfl)
    have hM9 := (hfr9 68 (by decide)).trans hM
    have h699 := (hfr9 69 (by decide)).trans h69
    refine v_aload_n C 0 dX9_countDays_49 rfl rfl ?_
    refine v_iconst (v := 1) C dX9_countDays_50 (by decide) ?_
    refine v_puti C 68 dX9_countDays_51 fX9_116 (by omega) hM9 rfl rfl rfl rfl (fun E2 hE2_68 oE2 => ?_)
    have hE2_69 := (oE2 69 (by decide)).trans h699
    have hE2_70 := (oE2 70 (by decide)).trans h709
    exact v_vret C dX9_countDays_54 rfl ⟨va_up im 7 1, fun k hk => if_neg hk, rfl, ⟨(icm_of (fun k hk => if_neg hk)).trans hic, hP, hE2_68, hE2_69, Or.inr rfl, mf9, hE2_70, (hF9 0 (by decide)).trans (FK_0 hP), fun _ => hF9⟩, fun j a b => (oE2 j a).trans (hfr9 j b)⟩

set_option maxRecDepth 20000 in
theorem d_allDays (l : Launch) (G : Gl) (n : Nat) (ad : Nat → Nat) (E : Nat → va_E) (hn : 98 ≤ n) {im ic md : Nat → Int32} (hW : MCal G ad E im ic md)  : CtI l G yX9_allDays cX9_allDays 1 .int 2 44 n ad E [.ref (ad 68)] (fun r E' => (r.toInt = YSf md (ic 4).toInt (ic 5).toInt 100) ∧ MR G ad E E' im ic md) := by
  refine CtI.of (by decide) (Nat.le_of_ble_eq_true rfl) (fun X A C => ?_)
  obtain ⟨hic, hP, hM, h69, hk7, mf, h70, hf0, hcnt⟩ := id hW
  have q4 := hP.2.1
  have q5 := hP.2.2.1
  have q6 := hP.2.2.2.1
  have q7 := hP.2.2.2.2.1
  have q8 := hP.2.2.2.2.2
  refine v_sub (lv' := [(0, .ref (ad 68))]) [0] rfl ?_
  refine v_aload_n C 0 dX9_allDays_0 rfl rfl ?_
  refine v_cVv C dX9_allDays_1 lX9_124 mX9_countDays 68 (by omega) hM (by decide) rfl (d_countDays l G n ad _ hn hW) ⟨by decide, by decide⟩ rfl (Nat.le_of_ble_eq_true rfl) ⟨Nat.zero_le _, Nat.zero_le _⟩ (fun E1 hq2 => ?_)
  obtain ⟨imq, hsq, h73, hWq, hoq⟩ := hq2
  obtain ⟨hic4, _, hM4, h694, hk74, mf4, h704, hf04, hcnt4⟩ := id hWq
  have hF4 := hcnt4 h73
  have hs4 := hsq
  have hW4 := hWq
  have ho4 := hoq
  refine v_aload_n C 0 dX9_allDays_4 rfl rfl ?_
  refine v_getr C 68 dX9_allDays_5 fX9_26 (by omega) hM4 rfl rfl ?_
  refine v_sipush (v := 1200) C dX9_allDays_8 (by decide) ?_
  refine v_ald (v := mf4 1200) C 70 dX9_allDays_11 (by omega) h704 (ti_in (show (1200 : Int32).toInt = 1200 by decide) (by omega) (by omega)) (congrArg mf4 (by decide)) ?_
  exact v_ret C dX9_allDays_12 rfl rfl ⟨(hF4 1200 (by decide)).trans (FK_end hP), (MR.trans hs4 ho4 (MR.refl hW4))⟩

set_option maxRecDepth 20000 in
theorem d_isDay (l : Launch) (G : Gl) (n : Nat) (ad : Nat → Nat) (E : Nat → va_E) (hn : 98 ≤ n) {im ic md : Nat → Int32} (hW : MCal G ad E im ic md) (d : Int32)  : CtI l G yX9_isDay cX9_isDay 2 .boolean 3 64 n ad E [.ref (ad 68), .int d] (fun r E' => ((r = 1 ∧ (0 ≤ d.toInt ∧ d.toInt < YSf md (ic 4).toInt (ic 5).toInt 100)) ∨ (r = 0 ∧ ¬ (0 ≤ d.toInt ∧ d.toInt < YSf md (ic 4).toInt (ic 5).toInt 100))) ∧ MR G ad E E' im ic md) := by
  refine CtI.of (by decide) (Nat.le_of_ble_eq_true rfl) (fun X A C => ?_)
  obtain ⟨hic, hP, hM, h69, hk7, mf, h70, hf0, hcnt⟩ := id hW
  have q4 := hP.2.1
  have q5 := hP.2.2.1
  have q6 := hP.2.2.2.1
  have q7 := hP.2.2.2.2.1
  have q8 := hP.2.2.2.2.2
  refine v_sub (lv' := [(0, .ref (ad 68)), (1, .int d)]) [0, 1] rfl ?_
  refine v_iload_n C 1 dX9_isDay_0 rfl rfl ?_
  refine b_if_lt C 16 dX9_isDay_1 (by decide) (rfl : Int32.toInt d = _) (fun c1 => ?_) (fun c1 => ?_)
  · refine v_iconst (v := 0) C dX9_isDay_16 (by decide) ?_
    exact v_ret C dX9_isDay_17 rfl rfl ⟨Or.inr ⟨rfl, by omega⟩, (MR.refl hW)⟩
  · refine v_iload_n C 1 dX9_isDay_4 rfl rfl ?_
    refine v_aload_n C 0 dX9_isDay_5 rfl rfl ?_
    refine v_cVi C dX9_isDay_6 lX9_127 mX9_allDays 68 (by omega) hM (by decide) rfl (d_allDays l G n ad _ hn hW) ⟨by decide, by decide⟩ rfl (Nat.le_of_ble_eq_true rfl) ⟨Nat.zero_le _, Nat.zero_le _⟩ (fun r3 E2 hq4 => ?_)
    obtain ⟨hp5, hq4⟩ := hq4
    obtain ⟨im6, hs6, hW6, ho6⟩ := hq4
    obtain ⟨hic6, _, hM6, h696, hk76, mf6, h706, hf06, hcnt6⟩ := id hW6
    refine b_icmp_ge C 16 dX9_isDay_9 (by decide) (rfl : Int32.toInt d = _) hp5 (fun c7 => ?_) (fun c7 => ?_)
    · refine v_iconst (v := 0) C dX9_isDay_16 (by decide) ?_
      exact v_ret C dX9_isDay_17 rfl rfl ⟨Or.inr ⟨rfl, by omega⟩, (MR.trans hs6 ho6 (MR.refl hW6))⟩
    · refine v_iconst (v := 1) C dX9_isDay_12 (by decide) ?_
      refine v_goto C 17 dX9_isDay_13 (by decide) ?_
      exact v_ret C dX9_isDay_17 rfl rfl ⟨Or.inl ⟨rfl, by omega⟩, (MR.trans hs6 ho6 (MR.refl hW6))⟩

