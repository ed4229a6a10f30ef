set_option maxRecDepth 20000 in
theorem g_refreshAll (l : Launch) (G : Gl) (n : Nat) (ad : Nat → Nat) (E : Nat → va_E) {k : Nat} {ic md rf rto ron rat rbe rtd rm fv : Nat → Int32} (hP : CalP ic md) (hV : ∀ z, z < k → RZv ic rf rto ron rat rbe rtd rm fv z) {iz : Nat → Int32} {fz : Nat → Option Nat} (h6 : E 6 = ob 7 (rfs ad [7]) iz) (hzk : (iz 1).toInt = (k : Int)) (h7 : E 7 = aQ G 3 5 fz) (hfz : ∀ i, i < k → fz i = some (ad (98 + 9 * i))) (hk5 : k ≤ 5) (hZ : ZCl G ad k ic md rf rto ron rat rbe rtd rm fv E) (x : Int32) : CtV l G yX7_refresh cX7_refresh 4 3 73 (98 + 9 * k) ad E [.ref (ad 6), .int x] (fun E' => ZCl G ad k ic md rf rto ron rat rbe rtd rm fv E' ∧ (∀ i, i < k → ZYp G ad (98 + 9 * i) ((TTz ic md rf rto ron rat rbe rtd rm fv x.toInt) i) E') ∧ ∀ j, j < 98 → E' j = E j) := by
  refine CtV.of (by decide) (Nat.le_of_ble_eq_true rfl) (fun X A C => ?_)
  refine v_sub (lv' := [(0, .ref (ad 6)), (1, .int x)]) [0, 1] rfl ?_
  refine v_iconst (v := 0) C dX7_refresh_0 (by decide) ?_
  refine v_istore_n (lv' := [(0, .ref (ad 6)), (1, .int x), (2, .int 0)]) C [1, 2, 0] dX7_refresh_1 rfl (by decide) rfl ?_
  have LP1 : ∀ (t : Nat) (i1 : Nat) (y2 : Int32) (E3 : Nat → va_E), (y2.toInt = (i1 : Int)) → (ZCl G ad k ic md rf rto ron rat rbe rtd rm fv E3 ∧ (∀ q, q < i1 → ZYp G ad (98 + 9 * q) ((TTz ic md rf rto ron rat rbe rtd rm fv x.toInt) q) E3) ∧ ∀ j, j < 98 → E3 j = E j) → (i1 ≤ k) → (k : Int) - (i1 : Int) < (t : Int) → V X G A 4 (QV X G A (98 + 9 * k) ad (fun E' => ZCl G ad k ic md rf rto ron rat rbe rtd rm fv E' ∧ (∀ i, i < k → ZYp G ad (98 + 9 * i) ((TTz ic md rf rto ron rat rbe rtd rm fv x.toInt) i) E') ∧ ∀ j, j < 98 → E' j = E j)) (98 + 9 * k) ad 0 0 E3 2 [(0, .ref (ad 6)), (1, .int x), (2, .int y2)] [] := by
    intro t6
    induction t6 with
    | zero => intro i1 y2 E3 hy2 hI4 hq5 hm8; exfalso; omega
    | succ t6 ih7 =>
      intro i1 y2 E3 hy2 hI4 hq5 hm8
      obtain ⟨hZ1, hY1, hO1⟩ := hI4
      have h6a := (hO1 6 (by decide)).trans h6
      have h7a := (hO1 7 (by decide)).trans h7
      refine v_iload_n C 2 dX7_refresh_2 rfl rfl ?_
      refine v_aload_n C 0 dX7_refresh_3 rfl rfl ?_
      refine v_geti (v := iz 1) C 6 dX7_refresh_4 fX7_17 (by omega) h6a rfl rfl ?_
      refine b_icmp_ge C 32 dX7_refresh_7 (by decide) hy2 hzk (fun c9 => ?_) (fun c9 => ?_)
      · exact v_vret C dX7_refresh_32 rfl ⟨hZ1, fun i hi => hY1 i (by omega), hO1⟩
      · refine v_aload_n C 0 dX7_refresh_10 rfl rfl ?_
        refine v_getr C 6 dX7_refresh_11 fX7_11 (by omega) h6a rfl rfl ?_
        refine v_iload_n C 2 dX7_refresh_14 rfl rfl ?_
        obtain ⟨ib, to, ro, rw1, yw, yo, ss, se, os, rt, R, hB, -⟩ := id (hZ1 i1 (by omega))
        refine v_aldZ (v := some (ad (98 + 9 * i1))) C 7 dX7_refresh_15 (by omega) h7a (ti_in hy2 (by omega) (by omega)) (by rw [ti_cl hy2, show Int.toNat (i1 : Int) = i1 by omega]; exact hfz i1 (by omega)) ?_
        refine v_astore_n (lv' := [(0, .ref (ad 6)), (1, .int x), (2, .int y2), (3, .ref (ad (98 + 9 * i1)))]) C [1, 2, 3, 0] dX7_refresh_16 rfl (by decide) rfl ?_
        refine v_aload_n C 3 dX7_refresh_17 rfl rfl ?_
        refine v_ifnull C dX7_refresh_18 ?_
        refine v_aload_n C 3 dX7_refresh_21 rfl rfl ?_
        refine v_iload_n C 1 dX7_refresh_22 rfl rfl ?_
        refine v_cVv C dX7_refresh_23 lX7_24 mX6_refresh (98 + 9 * i1) (by omega) hB (by decide) rfl (ZCl.refr1 l hP hV (i := i1) (by omega) hZ1 x) ⟨by decide, by decide⟩ rfl (Nat.le_of_ble_eq_true rfl) ⟨Nat.zero_le _, Nat.zero_le _⟩ (fun E10 hq11 => ?_)
        obtain ⟨x12, ex12⟩ : ∃ y : Int32, y = y2 + 1 := ⟨_, rfl⟩
        have hx12 : x12.toInt = ((i1 : Int) + 1) := by rw [ex12]; exact ti_add hy2 (show (1 : Int32).toInt = 1 by decide) (by omega) (by omega)
        refine v_iinc (v := x12) (lv' := [(0, .ref (ad 6)), (1, .int x), (2, .int x12), (3, .ref (ad (98 + 9 * i1)))]) C 2 [1, 2, 0, 3] dX7_refresh_26 rfl (ex12.symm) (by decide) rfl ?_
        refine v_goto C 2 dX7_refresh_29 (by decide) ?_
        refine v_sub (lv' := [(0, .ref (ad 6)), (1, .int x), (2, .int x12)]) [0, 1, 2] rfl ?_
        exact ih7 (i1 + 1) x12 E10 (show Int32.toInt x12 = ((i1 + 1 : Nat) : Int) by have := hx12; omega) (⟨hq11.1, fun q h => by by_cases e : q = i1; (subst e; exact hq11.2.1); (exact (hY1 q (by omega)).go (fun j g1 g2 => hq11.2.2 j (by omega))), fun j hj => (hq11.2.2 j (by omega)).trans (hO1 j hj)⟩) (by omega) (by omega)
  exact LP1 100000 0 0 E (show Int32.toInt 0 = ((0 : Nat) : Int) by have := (show (0 : Int32).toInt = 0 by decide); omega) (⟨hZ, fun q h => absurd h (by omega), fun j _ => rfl⟩) (by omega) (by omega)

set_option maxRecDepth 20000 in
theorem g_hear (l : Launch) (G : Gl) (n : Nat) (ad : Nat → Nat) (E : Nat → va_E) (hn : 98 ≤ n) {i48 : Nat → Int32} (h48 : E 48 = ob 1 (rfs ad [1, 6, 49, 45]) i48) (x : Int32) (y : Int32) (z : Int32) : CtV l G yX1_hear cX1_hear 4 0 0 (n) ad E [.ref (ad 48), .int x, .int y, .int z] (fun E' => ∃ i2 : Nat → Int32, E' 48 = ob 1 (rfs ad [1, 6, 49, 45]) i2 ∧ i2 4 = x ∧ i2 5 = y ∧ i2 6 = z ∧ ∀ j, j ≠ 48 → E' j = E j) := by
  refine CtV.of (by decide) (Nat.le_of_ble_eq_true rfl) (fun X A C => ?_)
  refine v_sub (lv' := [(0, .ref (ad 48)), (1, .int x), (2, .int y), (3, .int z)]) [0, 1, 2, 3] rfl ?_
  refine v_aload_n C 0 dX1_hear_0 rfl rfl ?_
  refine v_iload_n C 1 dX1_hear_1 rfl rfl ?_
  refine v_puti C 48 dX1_hear_2 fX1_32 (by omega) h48 rfl rfl rfl rfl (fun E1 hE1_48 oE1 => ?_)
  refine v_aload_n C 0 dX1_hear_5 rfl rfl ?_
  refine v_iload_n C 2 dX1_hear_6 rfl rfl ?_
  refine v_puti C 48 dX1_hear_7 fX1_36 (by omega) hE1_48 rfl rfl rfl rfl (fun E2 hE2_48 oE2 => ?_)
  refine v_aload_n C 0 dX1_hear_10 rfl rfl ?_
  refine v_iload_n C 3 dX1_hear_11 rfl rfl ?_
  refine v_puti C 48 dX1_hear_12 fX1_39 (by omega) hE2_48 rfl rfl rfl rfl (fun E3 hE3_48 oE3 => ?_)
  exact v_vret C dX1_hear_15 rfl ⟨_, hE3_48, rfl, rfl, rfl, fun j hj => ((oE3 j hj).trans ((oE2 j hj).trans (oE1 j hj)))⟩

set_option maxRecDepth 20000 in
theorem g_lawWall (l : Launch) (G : Gl) (n : Nat) (ad : Nat → Nat) (E : Nat → va_E) {k : Nat} {ic md : Nat → Int32} {TT : Nat → TST} (hK : KSt G ad k ic md TT E) {i48 : Nat → Int32} (h48 : E 48 = ob 1 (rfs ad [1, 6, 49, 45]) i48) {zz : Nat} (hz5 : (i48 5).toInt = (zz : Int)) (hzz : zz < k) (m : Int32) (hm : 0 ≤ m.toInt ∧ m.toInt < 60000000) : CtI l G yX1_lawWall cX1_lawWall 4 .int 2 44 (98 + 9 * k) ad E [.ref (ad 48), .int m] (fun r E' => (r.toInt = lwF ic md (TT zz) m.toInt) ∧ E = E') := by
  refine CtI.of (by decide) (Nat.le_of_ble_eq_true rfl) (fun X A C => ?_)
  refine v_sub (lv' := [(0, .ref (ad 48)), (1, .int m)]) [0, 1] rfl ?_
  obtain ⟨⟨i49, h49⟩, hC, ⟨iz, fz, h6, hzk, h7, hfz⟩, hZY, hk5⟩ := id hK
  obtain ⟨ms, ld, ys, hC1, hC2, hC3, hC4, hC5, hP, hF⟩ := id hC
  have hcy := cal_y hP
  refine v_aload_n C 0 dX1_lawWall_0 rfl rfl ?_
  refine v_getr C 48 dX1_lawWall_1 fX1_15 (by omega) h48 rfl rfl ?_
  refine v_aload_n C 0 dX1_lawWall_4 rfl rfl ?_
  refine v_geti (v := i48 5) C 48 dX1_lawWall_5 fX1_36 (by omega) h48 rfl rfl ?_
  refine v_cVr C dX1_lawWall_8 lX1_60 mX7_at 6 (by omega) h6 (by decide) rfl (g_zoneAt l G _ ad _ (by omega) h6 hzk h7 hfz hk5 (i48 5)) ⟨by decide, by decide⟩ rfl (Nat.le_of_ble_eq_true rfl) ⟨Nat.zero_le _, Nat.zero_le _⟩ (fun r1 hp2 => ?_)
  rcases hp2 with ⟨hno, rfl⟩ | ⟨i, hi, hk, rfl⟩
  · rw [hz5] at hno
    refine v_astore_nN (lv' := [(0, .ref (ad 48)), (1, .int m), (2, .null)]) C [1, 2, 0] dX1_lawWall_11 rfl (by decide) rfl ?_
    refine v_aload_nN C 2 dX1_lawWall_12 rfl rfl ?_
    refine v_ifnonnullN C dX1_lawWall_13 ?_
    refine v_iconst (v := (-1)) C dX1_lawWall_16 (by decide) ?_
    refine v_goto C 27 dX1_lawWall_17 (by decide) ?_
    refine v_istore_n (lv' := [(0, .ref (ad 48)), (1, .int m), (2, .null), (3, .int (-1))]) C [1, 2, 3, 0] dX1_lawWall_27 rfl (by decide) rfl ?_
    refine v_aload_n C 0 dX1_lawWall_28 rfl rfl ?_
    refine v_getr C 48 dX1_lawWall_29 fX1_9 (by omega) h48 rfl rfl ?_
    refine v_iload_n C 3 dX1_lawWall_32 rfl rfl ?_
    refine v_cVp C dX1_lawWall_33 lX1_71 mX0_hasWall 1 (by omega) hC1 (by decide) rfl (c_hasWall l G _ ad _ (by omega) hC1 hC2 hC3 hC4 hC5 hP hF (-1)) ⟨by decide, by decide⟩ rfl (Nat.le_of_ble_eq_true rfl) ⟨Nat.zero_le _, Nat.zero_le _⟩ (fun r3 hp4 => ?_)
    rw [(show ((-1) : Int32).toInt = (-1) by decide)] at hp4
    rcases hp4 with ⟨rfl, hp4⟩ | ⟨rfl, hp4⟩
    · refine b_if_eq C 43 dX1_lawWall_36 (by decide) (show (1 : Int32).toInt = 1 by decide) (fun c5 => absurd c5 (by decide)) (fun c5 => ?_)
      refine v_iload_n C 3 dX1_lawWall_39 rfl rfl ?_
      refine v_goto C 44 dX1_lawWall_40 (by decide) ?_
      exact v_ret C dX1_lawWall_44 rfl rfl (by exfalso; omega)
    · refine b_if_eq C 43 dX1_lawWall_36 (by decide) (show (0 : Int32).toInt = 0 by decide) (fun c6 => ?_) (fun c6 => absurd c6 (by decide))
      refine v_iconst (v := (-1)) C dX1_lawWall_43 (by decide) ?_
      exact v_ret C dX1_lawWall_44 rfl rfl (by exfalso; omega)
  · rw [hz5] at hi
    obtain ⟨zb, ezb⟩ : ∃ q : Nat, q = 98 + 9 * i := ⟨_, rfl⟩
    have hZi := hZY i hk
    rw [← ezb] at hZi ⊢
    obtain ⟨⟨ib, ss, se, os, c, hB, hz6, hz7, hz8, hc, hcT, hZ, hS⟩, hokT⟩ := hZi
    refine v_astore_n (lv' := [(0, .ref (ad 48)), (1, .int m), (2, .ref (ad zb))]) C [1, 2, 0] dX1_lawWall_11 rfl (by decide) rfl ?_
    refine v_aload_n C 2 dX1_lawWall_12 rfl rfl ?_
    refine v_ifnonnull C 20 dX1_lawWall_13 (by decide) ?_
    refine v_iload_n C 1 dX1_lawWall_20 rfl rfl ?_
    refine v_aload_n C 2 dX1_lawWall_21 rfl rfl ?_
    refine v_iload_n C 1 dX1_lawWall_22 rfl rfl ?_
    refine v_cVp C dX1_lawWall_23 lX1_66 mX6_offsetAt zb (by omega) hB (by decide) rfl (z_offset l G (98 + 9 * k) ad _ zb (by omega) hB hz6 hz7 hz8 hc hS m) ⟨by decide, by decide⟩ rfl (Nat.le_of_ble_eq_true rfl) ⟨Nat.zero_le _, Nat.zero_le _⟩ (fun r7 hp8 => ?_)
    obtain ⟨j, hST, hrj⟩ := hp8
    have hTTj := isST_T hcT hZ hST
    have hrv : r7.toInt = ofT (TT i) (Int32.toInt m) := by rw [hrj, (hZ.2 j hTTj.1).2]; exact ofT_tt hTTj
    have hrb := ofT_bd (m := Int32.toInt m) hokT
    refine v_iadd C dX1_lawWall_26 ?_
    refine v_top (fun x9 ex9 => ?_)
    have hx9 : x9.toInt = (m.toInt + (ofT (TT i) m.toInt)) := by rw [ex9]; exact ti_add (rfl : Int32.toInt m = _) hrv (by omega) (by omega)
    refine v_istore_n (lv' := [(0, .ref (ad 48)), (1, .int m), (2, .ref (ad zb)), (3, .int x9)]) C [1, 2, 3, 0] dX1_lawWall_27 rfl (by decide) rfl ?_
    refine v_aload_n C 0 dX1_lawWall_28 rfl rfl ?_
    refine v_getr C 48 dX1_lawWall_29 fX1_9 (by omega) h48 rfl rfl ?_
    refine v_iload_n C 3 dX1_lawWall_32 rfl rfl ?_
    refine v_cVp C dX1_lawWall_33 lX1_71 mX0_hasWall 1 (by omega) hC1 (by decide) rfl (c_hasWall l G _ ad _ (by omega) hC1 hC2 hC3 hC4 hC5 hP hF x9) ⟨by decide, by decide⟩ rfl (Nat.le_of_ble_eq_true rfl) ⟨Nat.zero_le _, Nat.zero_le _⟩ (fun r10 hp11 => ?_)
    rw [hx9] at hp11
    rcases hp11 with ⟨rfl, hp11⟩ | ⟨rfl, hp11⟩
    · refine b_if_eq C 43 dX1_lawWall_36 (by decide) (show (1 : Int32).toInt = 1 by decide) (fun c12 => absurd c12 (by decide)) (fun c12 => ?_)
      refine v_iload_n C 3 dX1_lawWall_39 rfl rfl ?_
      refine v_goto C 44 dX1_lawWall_40 (by decide) ?_
      exact v_ret C dX1_lawWall_44 rfl rfl ⟨(by obtain rfl : i = zz := (by omega); unfold lwF; rw [if_pos (by unfold okW; omega)]; exact hx9), rfl⟩
    · refine b_if_eq C 43 dX1_lawWall_36 (by decide) (show (0 : Int32).toInt = 0 by decide) (fun c13 => ?_) (fun c13 => absurd c13 (by decide))
      refine v_iconst (v := (-1)) C dX1_lawWall_43 (by decide) ?_
      exact v_ret C dX1_lawWall_44 rfl rfl ⟨(by obtain rfl : i = zz := (by omega); unfold lwF; rw [if_neg (by unfold okW; omega)]; decide), rfl⟩

theorem lw_bd {ic md : Nat → Int32} {T : TST} {m : Int} (hP : CalP ic md) : lwF ic md T m = -1 ∨ (0 ≤ lwF ic md T m ∧ lwF ic md T m ≤ 69300000) := by
  have := cal_y hP
  unfold lwF
  split
  · rename_i q; unfold okW at q; right; omega
  · exact Or.inl rfl

set_option maxRecDepth 20000 in
theorem g_atMinute (l : Launch) (G : Gl) (n : Nat) (ad : Nat → Nat) (E : Nat → va_E) {k : Nat} {ic md : Nat → Int32} {TT : Nat → TST} (hK : KSt G ad k ic md TT E) {i48 : Nat → Int32} (h48 : E 48 = ob 1 (rfs ad [1, 6, 49, 45]) i48) {zz : Nat} (hz5 : (i48 5).toInt = (zz : Int)) (hzz : zz < k) (m : Int32) (hm : 0 ≤ m.toInt ∧ m.toInt < 60000000) : CtI l G yX1_isAtMinute cX1_isAtMinute 3 .boolean 3 67 (98 + 9 * k) ad E [.ref (ad 48), .int m] (fun r E' => ((r = 1 ∧ (lwF ic md (TT zz) m.toInt ≠ -1 ∧ lwF ic md (TT zz) m.toInt % 1440 = (i48 6).toInt)) ∨ (r = 0 ∧ ¬ (lwF ic md (TT zz) m.toInt ≠ -1 ∧ lwF ic md (TT zz) m.toInt % 1440 = (i48 6).toInt))) ∧ E = E') := by
  refine CtI.of (by decide) (Nat.le_of_ble_eq_true rfl) (fun X A C => ?_)
  refine v_sub (lv' := [(0, .ref (ad 48)), (1, .int m)]) [0, 1] rfl ?_
  obtain ⟨⟨i49, h49⟩, hC, ⟨iz, fz, h6, hzk, h7, hfz⟩, hZY, hk5⟩ := id hK
  obtain ⟨ms, ld, ys, hC1, hC2, hC3, hC4, hC5, hP, hF⟩ := id hC
  have hcy := cal_y hP
  refine v_aload_n C 0 dX1_isAtMinute_0 rfl rfl ?_
  refine v_iload_n C 1 dX1_isAtMinute_1 rfl rfl ?_
  refine v_cVp C dX1_isAtMinute_2 lX1_51 mX1_lawWall 48 (by omega) h48 (by decide) rfl (g_lawWall l G 0 ad _ hK h48 hz5 hzz m hm) ⟨by decide, by decide⟩ rfl (Nat.le_of_ble_eq_true rfl) ⟨Nat.zero_le _, Nat.zero_le _⟩ (fun r1 hp2 => ?_)
  have hbr1 := lw_bd (T := TT zz) (m := m.toInt) hP
  refine v_istore_n (lv' := [(0, .ref (ad 48)), (1, .int m), (2, .int r1)]) C [1, 2, 0] dX1_isAtMinute_5 rfl (by decide) rfl ?_
  refine v_iload_n C 2 dX1_isAtMinute_6 rfl rfl ?_
  refine v_iconst (v := (-1)) C dX1_isAtMinute_7 (by decide) ?_
  refine b_icmp_eq C 27 dX1_isAtMinute_8 (by decide) hp2 (show ((-1) : Int32).toInt = (-1) by decide) (fun c3 => ?_) (fun c3 => ?_)
  · refine v_iconst (v := 0) C dX1_isAtMinute_27 (by decide) ?_
    exact v_ret C dX1_isAtMinute_28 rfl rfl ⟨Or.inr ⟨rfl, by omega⟩, rfl⟩
  · refine v_iload_n C 2 dX1_isAtMinute_11 rfl rfl ?_
    refine v_sipush (v := 1440) C dX1_isAtMinute_12 (by decide) ?_
    refine v_irem C dX1_isAtMinute_15 (by decide) ?_
    refine v_top (fun x4 ex4 => ?_)
    have hx4 : x4.toInt = ((lwF ic md (TT zz) m.toInt) % 1440) := by rw [ex4]; exact ti_rem hp2 (show (1440 : Int32).toInt = 1440 by decide) (by omega) (by omega)
    refine v_aload_n C 0 dX1_isAtMinute_16 rfl rfl ?_
    refine v_geti (v := i48 6) C 48 dX1_isAtMinute_17 fX1_39 (by omega) h48 rfl rfl ?_
    refine b_icmp_ne C 27 dX1_isAtMinute_20 (by decide) hx4 (rfl : Int32.toInt (i48 6) = _) (fun c5 => ?_) (fun c5 => ?_)
    · refine v_iconst (v := 0) C dX1_isAtMinute_27 (by decide) ?_
      exact v_ret C dX1_isAtMinute_28 rfl rfl ⟨Or.inr ⟨rfl, by omega⟩, rfl⟩
    · refine v_iconst (v := 1) C dX1_isAtMinute_23 (by decide) ?_
      refine v_goto C 28 dX1_isAtMinute_24 (by decide) ?_
      exact v_ret C dX1_isAtMinute_28 rfl rfl ⟨Or.inl ⟨rfl, by omega⟩, rfl⟩

set_option maxRecDepth 20000 in
theorem g_sameWd (l : Launch) (G : Gl) (n : Nat) (ad : Nat → Nat) (E : Nat → va_E) {k : Nat} {ic md : Nat → Int32} {TT : Nat → TST} (hK : KSt G ad k ic md TT E) {i48 : Nat → Int32} (h48 : E 48 = ob 1 (rfs ad [1, 6, 49, 45]) i48) {zz : Nat} (hz5 : (i48 5).toInt = (zz : Int)) (hzz : zz < k) (a : Int32) (m : Int32) (ha : 0 ≤ a.toInt ∧ a.toInt < 60000000) (hm : 0 ≤ m.toInt ∧ m.toInt < 60000000) : CtI l G yX1_haveSameWeekday cX1_haveSameWeekday 5 .boolean 3 67 (98 + 9 * k) ad E [.ref (ad 48), .int a, .int m] (fun r E' => ((r = 1 ∧ (lwF ic md (TT zz) a.toInt ≠ -1 ∧ lwF ic md (TT zz) m.toInt ≠ -1 ∧ (lwF ic md (TT zz) a.toInt / 1440 + (ic 8).toInt) % (ic 7).toInt = (lwF ic md (TT zz) m.toInt / 1440 + (ic 8).toInt) % (ic 7).toInt)) ∨ (r = 0 ∧ ¬ (lwF ic md (TT zz) a.toInt ≠ -1 ∧ lwF ic md (TT zz) m.toInt ≠ -1 ∧ (lwF ic md (TT zz) a.toInt / 1440 + (ic 8).toInt) % (ic 7).toInt = (lwF ic md (TT zz) m.toInt / 1440 + (ic 8).toInt) % (ic 7).toInt))) ∧ E = E') := by
  refine CtI.of (by decide) (Nat.le_of_ble_eq_true rfl) (fun X A C => ?_)
  refine v_sub (lv' := [(0, .ref (ad 48)), (1, .int a), (2, .int m)]) [0, 1, 2] rfl ?_
  obtain ⟨⟨i49, h49⟩, hC, ⟨iz, fz, h6, hzk, h7, hfz⟩, hZY, hk5⟩ := id hK
  obtain ⟨ms, ld, ys, hC1, hC2, hC3, hC4, hC5, hP, hF⟩ := id hC
  have hcy := cal_y hP
  refine v_aload_n C 0 dX1_haveSameWeekday_0 rfl rfl ?_
  refine v_iload_n C 1 dX1_haveSameWeekday_1 rfl rfl ?_
  refine v_cVp C dX1_haveSameWeekday_2 lX1_51 mX1_lawWall 48 (by omega) h48 (by decide) rfl (g_lawWall l G 0 ad _ hK h48 hz5 hzz a ha) ⟨by decide, by decide⟩ rfl (Nat.le_of_ble_eq_true rfl) ⟨Nat.zero_le _, Nat.zero_le _⟩ (fun r1 hp2 => ?_)
  have hbr1 := lw_bd (T := TT zz) (m := a.toInt) hP
  refine v_istore_n (lv' := [(0, .ref (ad 48)), (1, .int a), (2, .int m), (3, .int r1)]) C [1, 2, 3, 0] dX1_haveSameWeekday_5 rfl (by decide) rfl ?_
  refine v_aload_n C 0 dX1_haveSameWeekday_6 rfl rfl ?_
  refine v_iload_n C 2 dX1_haveSameWeekday_7 rfl rfl ?_
  refine v_cVp C dX1_haveSameWeekday_8 lX1_51 mX1_lawWall 48 (by omega) h48 (by decide) rfl (g_lawWall l G 0 ad _ hK h48 hz5 hzz m hm) ⟨by decide, by decide⟩ rfl (Nat.le_of_ble_eq_true rfl) ⟨Nat.zero_le _, Nat.zero_le _⟩ (fun r3 hp4 => ?_)
  have hbr3 := lw_bd (T := TT zz) (m := m.toInt) hP
  refine v_istore (lv' := [(0, .ref (ad 48)), (1, .int a), (2, .int m), (3, .int r1), (4, .int r3)]) C [1, 2, 3, 4, 0] dX1_haveSameWeekday_11 (by decide) rfl ?_
  refine v_iload_n C 3 dX1_haveSameWeekday_13 rfl rfl ?_
  refine v_iconst (v := (-1)) C dX1_haveSameWeekday_14 (by decide) ?_
  refine b_icmp_eq C 24 dX1_haveSameWeekday_15 (by decide) hp2 (show ((-1) : Int32).toInt = (-1) by decide) (fun c5 => ?_) (fun c5 => ?_)
  · refine v_iconst (v := 0) C dX1_haveSameWeekday_24 (by decide) ?_
    exact v_ret C dX1_haveSameWeekday_25 rfl rfl ⟨Or.inr ⟨rfl, by omega⟩, rfl⟩
  · refine v_iload C 4 dX1_haveSameWeekday_18 rfl ?_
    refine v_iconst (v := (-1)) C dX1_haveSameWeekday_20 (by decide) ?_
    refine b_icmp_ne C 26 dX1_haveSameWeekday_21 (by decide) hp4 (show ((-1) : Int32).toInt = (-1) by decide) (fun c6 => ?_) (fun c6 => ?_)
    · refine v_aload_n C 0 dX1_haveSameWeekday_26 rfl rfl ?_
      refine v_getr C 48 dX1_haveSameWeekday_27 fX1_9 (by omega) h48 rfl rfl ?_
      refine v_iload_n C 3 dX1_haveSameWeekday_30 rfl rfl ?_
      refine v_sipush (v := 1440) C dX1_haveSameWeekday_31 (by decide) ?_
      refine v_idiv C dX1_haveSameWeekday_34 (by decide) ?_
      refine v_top (fun x7 ex7 => ?_)
      have hx7 : x7.toInt = ((lwF ic md (TT zz) a.toInt) / 1440) := by rw [ex7]; exact ti_div hp2 (show (1440 : Int32).toInt = 1440 by decide) (by omega) (by omega)
      refine v_cVp C dX1_haveSameWeekday_35 lX1_55 mX0_weekdayOf 1 (by omega) hC1 (by decide) rfl (c_weekdayOf l G _ ad _ (by omega) hC1 hC2 hC3 hC4 hC5 hP hF x7 (by omega) (by omega)) ⟨by decide, by decide⟩ rfl (Nat.le_of_ble_eq_true rfl) ⟨Nat.zero_le _, Nat.zero_le _⟩ (fun r8 hp9 => ?_)
      rw [hx7] at hp9
      refine v_aload_n C 0 dX1_haveSameWeekday_38 rfl rfl ?_
      refine v_getr C 48 dX1_haveSameWeekday_39 fX1_9 (by omega) h48 rfl rfl ?_
      refine v_iload C 4 dX1_haveSameWeekday_42 rfl ?_
      refine v_sipush (v := 1440) C dX1_haveSameWeekday_44 (by decide) ?_
      refine v_idiv C dX1_haveSameWeekday_47 (by decide) ?_
      refine v_top (fun x10 ex10 => ?_)
      have hx10 : x10.toInt = ((lwF ic md (TT zz) m.toInt) / 1440) := by rw [ex10]; exact ti_div hp4 (show (1440 : Int32).toInt = 1440 by decide) (by omega) (by omega)
      refine v_cVp C dX1_haveSameWeekday_48 lX1_55 mX0_weekdayOf 1 (by omega) hC1 (by decide) rfl (c_weekdayOf l G _ ad _ (by omega) hC1 hC2 hC3 hC4 hC5 hP hF x10 (by omega) (by omega)) ⟨by decide, by decide⟩ rfl (Nat.le_of_ble_eq_true rfl) ⟨Nat.zero_le _, Nat.zero_le _⟩ (fun r11 hp12 => ?_)
      rw [hx10] at hp12
      refine b_icmp_ne C 58 dX1_haveSameWeekday_51 (by decide) hp9 hp12 (fun c13 => ?_) (fun c13 => ?_)
      · refine v_iconst (v := 0) C dX1_haveSameWeekday_58 (by decide) ?_
        exact v_ret C dX1_haveSameWeekday_59 rfl rfl ⟨Or.inr ⟨rfl, by omega⟩, rfl⟩
      · refine v_iconst (v := 1) C dX1_haveSameWeekday_54 (by decide) ?_
        refine v_goto C 59 dX1_haveSameWeekday_55 (by decide) ?_
        exact v_ret C dX1_haveSameWeekday_59 rfl rfl ⟨Or.inl ⟨rfl, by omega⟩, rfl⟩
    · refine v_iconst (v := 0) C dX1_haveSameWeekday_24 (by decide) ?_
      exact v_ret C dX1_haveSameWeekday_25 rfl rfl ⟨Or.inr ⟨rfl, by omega⟩, rfl⟩

set_option maxRecDepth 20000 in
theorem g_holds (l : Launch) (G : Gl) (n : Nat) (ad : Nat → Nat) (E : Nat → va_E) {k : Nat} {ic md : Nat → Int32} {TT : Nat → TST} (hK : KSt G ad k ic md TT E) {i48 : Nat → Int32} (h48 : E 48 = ob 1 (rfs ad [1, 6, 49, 45]) i48) (hg : 0 ≤ (i48 4).toInt ∧ (i48 4).toInt ≤ 4) {zz : Nat} (hzl : (i48 4).toInt = 1 ∨ (i48 4).toInt = 2 → (i48 5).toInt = (zz : Int) ∧ zz < k) (x : Int32) (a : Int32) (m : Int32) (hwi : a.toInt = -2000000000 ∨ wiK ic md x.toInt a.toInt) (hx : 0 ≤ x.toInt ∧ x.toInt ≤ 3) (hm : 0 ≤ m.toInt ∧ m.toInt < 60000000) : CtI l G yX1_holds cX1_holds 4 .boolean 4 91 (98 + 9 * k) ad E [.ref (ad 48), .int x, .int a, .int m] (fun r E' => ((r = 1 ∧ (HLp ic md (TT zz) (i48 4).toInt (i48 6).toInt x.toInt a.toInt m.toInt)) ∨ (r = 0 ∧ ¬ (HLp ic md (TT zz) (i48 4).toInt (i48 6).toInt x.toInt a.toInt m.toInt))) ∧ E = E') := by
  refine CtI.of (by decide) (Nat.le_of_ble_eq_true rfl) (fun X A C => ?_)
  refine v_sub (lv' := [(0, .ref (ad 48)), (1, .int x), (2, .int a), (3, .int m)]) [0, 1, 2, 3] rfl ?_
  obtain ⟨⟨i49, h49⟩, hC, ⟨iz, fz, h6, hzk, h7, hfz⟩, hZY, hk5⟩ := id hK
  obtain ⟨ms, ld, ys, hC1, hC2, hC3, hC4, hC5, hP, hF⟩ := id hC
  have hcy := cal_y hP
  refine v_iload_n C 2 dX1_holds_0 rfl rfl ?_
  refine v_ldc C dX1_holds_1 kX1_42 ?_
  refine b_icmp_ne C 8 dX1_holds_3 (by decide) (rfl : Int32.toInt a = _) (show ((-2000000000) : Int32).toInt = (-2000000000) by decide) (fun c1 => ?_) (fun c1 => ?_)
  · refine v_aload_n C 0 dX1_holds_8 rfl rfl ?_
    refine v_geti (v := i48 4) C 48 dX1_holds_9 fX1_32 (by omega) h48 rfl rfl ?_
    have q2v : Int32.toInt (i48 4) = (i48 4).toInt := (rfl : Int32.toInt (i48 4) = _)
    rcases (show (i48 4).toInt = 0 ∨ (i48 4).toInt = 1 ∨ (i48 4).toInt = 2 ∨ (i48 4).toInt = 3 ∨ ((i48 4).toInt < 0 ∨ 3 < (i48 4).toInt) by omega) with q2 | q2 | q2 | q2 | q2
    · refine v_tableIn (off := 32) C 44 dX1_holds_12 (by omega) (by omega) (by rw [q2v, q2]; rfl) (by decide) ?_
      refine v_iload_n C 1 dX1_holds_44 rfl rfl ?_
      refine b_if_ne C 62 dX1_holds_45 (by decide) (rfl : Int32.toInt x = _) (fun c3 => ?_) (fun c3 => ?_)
      · refine v_iconst (v := 0) C dX1_holds_62 (by decide) ?_
        exact v_ret C dX1_holds_63 rfl rfl ⟨Or.inr ⟨rfl, by unfold HLp; (try unfold wiK at hwi); omega⟩, rfl⟩
      · refine v_iload_n C 2 dX1_holds_48 rfl rfl ?_
        refine v_iload_n C 3 dX1_holds_49 rfl rfl ?_
        unfold wiK at hwi
        refine v_isub C dX1_holds_50 ?_
        refine v_top (fun x4 ex4 => ?_)
        have hx4 : x4.toInt = (a.toInt - m.toInt) := by rw [ex4]; exact ti_sub (rfl : Int32.toInt a = _) (rfl : Int32.toInt m = _) (by omega) (by omega)
        refine v_aload_n C 0 dX1_holds_51 rfl rfl ?_
        refine v_geti (v := i48 6) C 48 dX1_holds_52 fX1_39 (by omega) h48 rfl rfl ?_
        refine b_icmp_lt C 62 dX1_holds_55 (by decide) hx4 (rfl : Int32.toInt (i48 6) = _) (fun c5 => ?_) (fun c5 => ?_)
        · refine v_iconst (v := 0) C dX1_holds_62 (by decide) ?_
          exact v_ret C dX1_holds_63 rfl rfl ⟨Or.inr ⟨rfl, by unfold HLp; (try unfold wiK at hwi); omega⟩, rfl⟩
        · refine v_iconst (v := 1) C dX1_holds_58 (by decide) ?_
          refine v_goto C 63 dX1_holds_59 (by decide) ?_
          exact v_ret C dX1_holds_63 rfl rfl ⟨Or.inl ⟨rfl, by unfold HLp; (try unfold wiK at hwi); omega⟩, rfl⟩
    · refine v_tableIn (off := 52) C 64 dX1_holds_12 (by omega) (by omega) (by rw [q2v, q2]; rfl) (by decide) ?_
      refine v_iload_n C 1 dX1_holds_64 rfl rfl ?_
      refine b_if_ne C 80 dX1_holds_65 (by decide) (rfl : Int32.toInt x = _) (fun c6 => ?_) (fun c6 => ?_)
      · refine v_iconst (v := 0) C dX1_holds_80 (by decide) ?_
        exact v_ret C dX1_holds_81 rfl rfl ⟨Or.inr ⟨rfl, by unfold HLp; (try unfold wiK at hwi); omega⟩, rfl⟩
      · refine v_aload_n C 0 dX1_holds_68 rfl rfl ?_
        refine v_iload_n C 2 dX1_holds_69 rfl rfl ?_
        refine v_cVp C dX1_holds_70 lX1_43 mX1_isAtMinute 48 (by omega) h48 (by decide) rfl (g_atMinute l G 0 ad _ hK h48 (hzl (by omega)).1 (hzl (by omega)).2 a (by unfold wiK at hwi; omega)) ⟨by decide, by decide⟩ rfl (Nat.le_of_ble_eq_true rfl) ⟨Nat.zero_le _, Nat.zero_le _⟩ (fun r7 hp8 => ?_)
        rcases hp8 with ⟨rfl, hp8⟩ | ⟨rfl, hp8⟩
        · refine b_if_eq C 80 dX1_holds_73 (by decide) (show (1 : Int32).toInt = 1 by decide) (fun c9 => absurd c9 (by decide)) (fun c9 => ?_)
          refine v_iconst (v := 1) C dX1_holds_76 (by decide) ?_
          refine v_goto C 81 dX1_holds_77 (by decide) ?_
          exact v_ret C dX1_holds_81 rfl rfl ⟨Or.inl ⟨rfl, by unfold HLp; (try unfold wiK at hwi); omega⟩, rfl⟩
        · refine b_if_eq C 80 dX1_holds_73 (by decide) (show (0 : Int32).toInt = 0 by decide) (fun c10 => ?_) (fun c10 => absurd c10 (by decide))
          refine v_iconst (v := 0) C dX1_holds_80 (by decide) ?_
          exact v_ret C dX1_holds_81 rfl rfl ⟨Or.inr ⟨rfl, by unfold HLp; (try unfold wiK at hwi); omega⟩, rfl⟩
    · refine v_tableIn (off := 70) C 82 dX1_holds_12 (by omega) (by omega) (by rw [q2v, q2]; rfl) (by decide) ?_
      refine v_iload_n C 1 dX1_holds_82 rfl rfl ?_
      refine b_if_ne C 99 dX1_holds_83 (by decide) (rfl : Int32.toInt x = _) (fun c11 => ?_) (fun c11 => ?_)
      · refine v_iconst (v := 0) C dX1_holds_99 (by decide) ?_
        exact v_ret C dX1_holds_100 rfl rfl ⟨Or.inr ⟨rfl, by unfold HLp; (try unfold wiK at hwi); omega⟩, rfl⟩
      · refine v_aload_n C 0 dX1_holds_86 rfl rfl ?_
        refine v_iload_n C 2 dX1_holds_87 rfl rfl ?_
        refine v_iload_n C 3 dX1_holds_88 rfl rfl ?_
        refine v_cVp C dX1_holds_89 lX1_47 mX1_haveSameWeekday 48 (by omega) h48 (by decide) rfl (g_sameWd l G 0 ad _ hK h48 (hzl (by omega)).1 (hzl (by omega)).2 a m (by unfold wiK at hwi; omega) hm) ⟨by decide, by decide⟩ rfl (Nat.le_of_ble_eq_true rfl) ⟨Nat.zero_le _, Nat.zero_le _⟩ (fun r12 hp13 => ?_)
        rcases hp13 with ⟨rfl, hp13⟩ | ⟨rfl, hp13⟩
        · refine b_if_eq C 99 dX1_holds_92 (by decide) (show (1 : Int32).toInt = 1 by decide) (fun c14 => absurd c14 (by decide)) (fun c14 => ?_)
          refine v_iconst (v := 1) C dX1_holds_95 (by decide) ?_
          refine v_goto C 100 dX1_holds_96 (by decide) ?_
          exact v_ret C dX1_holds_100 rfl rfl ⟨Or.inl ⟨rfl, by unfold HLp; (try unfold wiK at hwi); omega⟩, rfl⟩
        · refine b_if_eq C 99 dX1_holds_92 (by decide) (show (0 : Int32).toInt = 0 by decide) (fun c15 => ?_) (fun c15 => absurd c15 (by decide))
          refine v_iconst (v := 0) C dX1_holds_99 (by decide) ?_
          exact v_ret C dX1_holds_100 rfl rfl ⟨Or.inr ⟨rfl, by unfold HLp; (try unfold wiK at hwi); omega⟩, rfl⟩
    · refine v_tableIn (off := 89) C 101 dX1_holds_12 (by omega) (by omega) (by rw [q2v, q2]; rfl) (by decide) ?_
      refine v_iload_n C 1 dX1_holds_101 rfl rfl ?_
      refine v_iconst (v := 3) C dX1_holds_102 (by decide) ?_
      refine b_icmp_ne C 118 dX1_holds_103 (by decide) (rfl : Int32.toInt x = _) (show (3 : Int32).toInt = 3 by decide) (fun c16 => ?_) (fun c16 => ?_)
      · refine v_iconst (v := 0) C dX1_holds_118 (by decide) ?_
        exact v_ret C dX1_holds_119 rfl rfl ⟨Or.inr ⟨rfl, by unfold HLp; (try unfold wiK at hwi); omega⟩, rfl⟩
      · refine v_iload_n C 2 dX1_holds_106 rfl rfl ?_
        refine v_aload_n C 0 dX1_holds_107 rfl rfl ?_
        refine v_geti (v := i48 6) C 48 dX1_holds_108 fX1_39 (by omega) h48 rfl rfl ?_
        refine b_icmp_lt C 118 dX1_holds_111 (by decide) (rfl : Int32.toInt a = _) (rfl : Int32.toInt (i48 6) = _) (fun c17 => ?_) (fun c17 => ?_)
        · refine v_iconst (v := 0) C dX1_holds_118 (by decide) ?_
          exact v_ret C dX1_holds_119 rfl rfl ⟨Or.inr ⟨rfl, by unfold HLp; (try unfold wiK at hwi); omega⟩, rfl⟩
        · refine v_iconst (v := 1) C dX1_holds_114 (by decide) ?_
          refine v_goto C 119 dX1_holds_115 (by decide) ?_
          exact v_ret C dX1_holds_119 rfl rfl ⟨Or.inl ⟨rfl, by unfold HLp; (try unfold wiK at hwi); omega⟩, rfl⟩
    · refine v_tableOut C 120 dX1_holds_12 (by omega) (by decide) ?_
      refine v_iconst (v := 1) C dX1_holds_120 (by decide) ?_
      exact v_ret C dX1_holds_121 rfl rfl ⟨Or.inl ⟨rfl, by unfold HLp; (try unfold wiK at hwi); omega⟩, rfl⟩
  · refine v_iconst (v := 0) C dX1_holds_6 (by decide) ?_
    exact v_ret C dX1_holds_7 rfl rfl ⟨Or.inr ⟨rfl, by unfold HLp; (try unfold wiK at hwi); omega⟩, rfl⟩

set_option maxRecDepth 20000 in
theorem g_isLaw (l : Launch) (G : Gl) (n : Nat) (ad : Nat → Nat) (E : Nat → va_E) (hn : 98 ≤ n) {io : Nat → Int32} (h0 : E 0 = ob 8 (rfs ad [1, 6, 8, 48, 45, 51]) io) {iz : Nat → Int32} (h6 : E 6 = ob 7 (rfs ad [7]) iz) {k : Nat} (hzk : (iz 1).toInt = (k : Int)) (x : Int32) (v : Int32) : CtI l G yX8_isLaw cX8_isLaw 5 .boolean 1 20 (n) ad E [.ref (ad 0), .int x, .int v] (fun r E' => ((r = 1 ∧ (okLW (k : Int) x.toInt v.toInt)) ∨ (r = 0 ∧ ¬ (okLW (k : Int) x.toInt v.toInt))) ∧ E = E') := by
  refine CtI.of (by decide) (Nat.le_of_ble_eq_true rfl) (fun X A C => ?_)
  refine v_sub (lv' := [(0, .ref (ad 0)), (1, .int x), (2, .int v)]) [0, 1, 2] rfl ?_
  refine v_iload_n C 1 dX8_isLaw_0 rfl rfl ?_
  refine v_bipush (v := 10) C dX8_isLaw_1 (by decide) ?_
  refine v_irem C dX8_isLaw_3 (by decide) ?_
  refine v_istore_n (lv' := [(0, .ref (ad 0)), (1, .int x), (2, .int v), (3, .int (x - x / 10 * 10))]) C [1, 2, 3, 0] dX8_isLaw_4 rfl (by decide) rfl ?_
  refine v_iload_n C 1 dX8_isLaw_5 rfl rfl ?_
  refine v_bipush (v := 10) C dX8_isLaw_6 (by decide) ?_
  refine v_idiv C dX8_isLaw_8 (by decide) ?_
  refine v_istore (lv' := [(0, .ref (ad 0)), (1, .int x), (2, .int v), (3, .int (x - x / 10 * 10)), (4, .int (x / 10))]) C [1, 2, 3, 4, 0] dX8_isLaw_9 (by decide) rfl ?_
  refine v_iload_n C 1 dX8_isLaw_11 rfl rfl ?_
  refine b_if_lt C 20 dX8_isLaw_12 (by decide) (rfl : Int32.toInt x = _) (fun c1 => ?_) (fun c1 => ?_)
  · refine v_iconst (v := 0) C dX8_isLaw_20 (by decide) ?_
    exact v_ret C dX8_isLaw_21 rfl rfl ⟨Or.inr ⟨rfl, by unfold okLW; omega⟩, rfl⟩
  · have hrm := ti_rem (rfl : Int32.toInt x = _) (show (10 : Int32).toInt = 10 by decide) (by omega) (by omega)
    have hdv := ti_div (rfl : Int32.toInt x = _) (show (10 : Int32).toInt = 10 by decide) (by omega) (by omega)
    refine v_iload_n C 3 dX8_isLaw_15 rfl rfl ?_
    refine v_iconst (v := 5) C dX8_isLaw_16 (by decide) ?_
    refine b_icmp_lt C 22 dX8_isLaw_17 (by decide) hrm (show (5 : Int32).toInt = 5 by decide) (fun c2 => ?_) (fun c2 => ?_)
    · refine v_iload_n C 3 dX8_isLaw_22 rfl rfl ?_
      have q3v : Int32.toInt (x - x / 10 * 10) = (x.toInt % 10) := hrm
      rcases (show (x.toInt % 10) = 0 ∨ (x.toInt % 10) = 1 ∨ (x.toInt % 10) = 2 ∨ (x.toInt % 10) = 3 ∨ ((x.toInt % 10) < 0 ∨ 3 < (x.toInt % 10)) by omega) with q3 | q3 | q3 | q3 | q3
      · refine v_tableIn (off := 76) C 99 dX8_isLaw_23 (by omega) (by omega) (by rw [q3v, q3]; rfl) (by decide) ?_
        refine v_iload C 4 dX8_isLaw_99 rfl ?_
        refine b_if_ne C 108 dX8_isLaw_101 (by decide) hdv (fun c4 => ?_) (fun c4 => ?_)
        · refine v_iconst (v := 0) C dX8_isLaw_108 (by decide) ?_
          exact v_ret C dX8_isLaw_109 rfl rfl ⟨Or.inr ⟨rfl, by unfold okLW; omega⟩, rfl⟩
        · refine v_iconst (v := 1) C dX8_isLaw_104 (by decide) ?_
          refine v_goto C 109 dX8_isLaw_105 (by decide) ?_
          exact v_ret C dX8_isLaw_109 rfl rfl ⟨Or.inl ⟨rfl, by unfold okLW; omega⟩, rfl⟩
      · refine v_tableIn (off := 29) C 52 dX8_isLaw_23 (by omega) (by omega) (by rw [q3v, q3]; rfl) (by decide) ?_
        refine v_iload C 4 dX8_isLaw_52 rfl ?_
        refine v_aload_n C 0 dX8_isLaw_54 rfl rfl ?_
        refine v_getr C 0 dX8_isLaw_55 fX8_19 (by omega) h0 rfl rfl ?_
        refine v_geti (v := iz 1) C 6 dX8_isLaw_58 fX8_64 (by omega) h6 rfl rfl ?_
        refine b_icmp_ge C 75 dX8_isLaw_61 (by decide) hdv hzk (fun c5 => ?_) (fun c5 => ?_)
        · refine v_iconst (v := 0) C dX8_isLaw_75 (by decide) ?_
          exact v_ret C dX8_isLaw_76 rfl rfl ⟨Or.inr ⟨rfl, by unfold okLW; omega⟩, rfl⟩
        · refine v_iload_n C 2 dX8_isLaw_64 rfl rfl ?_
          refine v_cSp C dX8_isLaw_65 lX8_136 mX8_isMinute (c_isMinute l G _ ad _ v) ⟨by decide, by decide⟩ rfl (Nat.le_of_ble_eq_true rfl) ⟨Nat.zero_le _, Nat.zero_le _⟩ (fun r6 hp7 => ?_)
          rcases hp7 with ⟨rfl, hp7⟩ | ⟨rfl, hp7⟩
          · refine b_if_eq C 75 dX8_isLaw_68 (by decide) (show (1 : Int32).toInt = 1 by decide) (fun c8 => absurd c8 (by decide)) (fun c8 => ?_)
            refine v_iconst (v := 1) C dX8_isLaw_71 (by decide) ?_
            refine v_goto C 76 dX8_isLaw_72 (by decide) ?_
            exact v_ret C dX8_isLaw_76 rfl rfl ⟨Or.inl ⟨rfl, by unfold okLW; omega⟩, rfl⟩
          · refine b_if_eq C 75 dX8_isLaw_68 (by decide) (show (0 : Int32).toInt = 0 by decide) (fun c9 => ?_) (fun c9 => absurd c9 (by decide))
            refine v_iconst (v := 0) C dX8_isLaw_75 (by decide) ?_
            exact v_ret C dX8_isLaw_76 rfl rfl ⟨Or.inr ⟨rfl, by unfold okLW; omega⟩, rfl⟩
      · refine v_tableIn (off := 54) C 77 dX8_isLaw_23 (by omega) (by omega) (by rw [q3v, q3]; rfl) (by decide) ?_
        refine v_iload C 4 dX8_isLaw_77 rfl ?_
        refine v_aload_n C 0 dX8_isLaw_79 rfl rfl ?_
        refine v_getr C 0 dX8_isLaw_80 fX8_19 (by omega) h0 rfl rfl ?_
        refine v_geti (v := iz 1) C 6 dX8_isLaw_83 fX8_64 (by omega) h6 rfl rfl ?_
        refine b_icmp_ge C 97 dX8_isLaw_86 (by decide) hdv hzk (fun c10 => ?_) (fun c10 => ?_)
        · refine v_iconst (v := 0) C dX8_isLaw_97 (by decide) ?_
          exact v_ret C dX8_isLaw_98 rfl rfl ⟨Or.inr ⟨rfl, by unfold okLW; omega⟩, rfl⟩
        · refine v_iload_n C 2 dX8_isLaw_89 rfl rfl ?_
          refine b_if_ne C 97 dX8_isLaw_90 (by decide) (rfl : Int32.toInt v = _) (fun c11 => ?_) (fun c11 => ?_)
          · refine v_iconst (v := 0) C dX8_isLaw_97 (by decide) ?_
            exact v_ret C dX8_isLaw_98 rfl rfl ⟨Or.inr ⟨rfl, by unfold okLW; omega⟩, rfl⟩
          · refine v_iconst (v := 1) C dX8_isLaw_93 (by decide) ?_
            refine v_goto C 98 dX8_isLaw_94 (by decide) ?_
            exact v_ret C dX8_isLaw_98 rfl rfl ⟨Or.inl ⟨rfl, by unfold okLW; omega⟩, rfl⟩
      · refine v_tableIn (off := 76) C 99 dX8_isLaw_23 (by omega) (by omega) (by rw [q3v, q3]; rfl) (by decide) ?_
        refine v_iload C 4 dX8_isLaw_99 rfl ?_
        refine b_if_ne C 108 dX8_isLaw_101 (by decide) hdv (fun c12 => ?_) (fun c12 => ?_)
        · refine v_iconst (v := 0) C dX8_isLaw_108 (by decide) ?_
          exact v_ret C dX8_isLaw_109 rfl rfl ⟨Or.inr ⟨rfl, by unfold okLW; omega⟩, rfl⟩
        · refine v_iconst (v := 1) C dX8_isLaw_104 (by decide) ?_
          refine v_goto C 109 dX8_isLaw_105 (by decide) ?_
          exact v_ret C dX8_isLaw_109 rfl rfl ⟨Or.inl ⟨rfl, by unfold okLW; omega⟩, rfl⟩
      · refine v_tableOut C 110 dX8_isLaw_23 (by omega) (by decide) ?_
        refine v_iload C 4 dX8_isLaw_110 rfl ?_
        refine b_if_ne C 123 dX8_isLaw_112 (by decide) hdv (fun c13 => ?_) (fun c13 => ?_)
        · refine v_iconst (v := 0) C dX8_isLaw_123 (by decide) ?_
          exact v_ret C dX8_isLaw_124 rfl rfl ⟨Or.inr ⟨rfl, by unfold okLW; omega⟩, rfl⟩
        · refine v_iload_n C 2 dX8_isLaw_115 rfl rfl ?_
          refine b_if_ne C 123 dX8_isLaw_116 (by decide) (rfl : Int32.toInt v = _) (fun c14 => ?_) (fun c14 => ?_)
          · refine v_iconst (v := 0) C dX8_isLaw_123 (by decide) ?_
            exact v_ret C dX8_isLaw_124 rfl rfl ⟨Or.inr ⟨rfl, by unfold okLW; omega⟩, rfl⟩
          · refine v_iconst (v := 1) C dX8_isLaw_119 (by decide) ?_
            refine v_goto C 124 dX8_isLaw_120 (by decide) ?_
            exact v_ret C dX8_isLaw_124 rfl rfl ⟨Or.inl ⟨rfl, by unfold okLW; omega⟩, rfl⟩
    · refine v_iconst (v := 0) C dX8_isLaw_20 (by decide) ?_
      exact v_ret C dX8_isLaw_21 rfl rfl ⟨Or.inr ⟨rfl, by unfold okLW; omega⟩, rfl⟩

set_option maxRecDepth 20000 in
theorem k_run (l : Launch) (G : Gl) (n : Nat) (ad : Nat → Nat) (E : Nat → va_E) {k : Nat} {ic md fl gop gx gy rf rto ron rat rbe rtd rm fv : Nat → Int32} {kn : Int32} (hKc : KCl G ad k ic md kn fl gop gx gy rf rto ron rat rbe rtd rm fv E) (hV : ∀ z, z < k → RZv ic rf rto ron rat rbe rtd rm fv z) (hLN : LOK k fl gop gx gy) (p : Int32) (m : Int32) : CtI l G yX8_run cX8_run 4 .int 5 124 (98 + 9 * k) ad E [.ref (ad 0), .int p, .int m] (fun r E' => RNp ic md (TTz ic md rf rto ron rat rbe rtd rm fv kn.toInt) fl gop gx gy p.toInt m.toInt r.toInt) := by
  refine CtI.of (by decide) (Nat.le_of_ble_eq_true rfl) (fun X A C => ?_)
  refine v_sub (lv' := [(0, .ref (ad 0)), (1, .int p), (2, .int m)]) [0, 1, 2] rfl ?_
  obtain ⟨⟨io, h0, hio⟩, hC, ⟨iz, fz, h6, hzk, h7, hfz⟩, ⟨fp, h8, hfp⟩, hPg, hbl, ⟨i48, h48⟩, ⟨i49, h49⟩, ⟨pv, h50⟩, hZ, hk5⟩ := id hKc
  have hP : CalP ic md := by obtain ⟨ms, ld, ys, -, -, -, -, -, hP, -⟩ := hC; exact hP
  refine v_aload_n C 0 dX8_run_0 rfl rfl ?_
  refine v_iload_n C 1 dX8_run_1 rfl rfl ?_
  refine v_cVr C dX8_run_2 lX8_177 mX8_programAt 0 (by omega) h0 (by decide) rfl (g_programAt l G _ ad _ (by omega) h0 h8 hfp p) ⟨by decide, by decide⟩ rfl (Nat.le_of_ble_eq_true rfl) ⟨Nat.zero_le _, Nat.zero_le _⟩ (fun r1 hp2 => ?_)
  rcases hp2 with ⟨hno, rfl⟩ | ⟨i, hi, hpi, rfl⟩
  · refine v_astore_nN (lv' := [(0, .ref (ad 0)), (1, .int p), (2, .int m), (3, .null)]) C [1, 2, 3, 0] dX8_run_5 rfl (by decide) rfl ?_
    refine v_aload_nN C 3 dX8_run_6 rfl rfl ?_
    refine v_ifnullN C 25 dX8_run_7 (by decide) ?_
    refine v_ldc C dX8_run_25 kX8_204 ?_
    exact v_ret C dX8_run_27 rfl rfl (Or.inl ⟨(by unfold okRN; omega), by decide⟩)
  · have hit : p.toInt.toNat = i := by omega
    have hbi := hbl i
    obtain ⟨N, hN⟩ : ∃ N : Nat, (fl i).toInt = (N : Int) := ⟨(fl i).toInt.toNat, by omega⟩
    have hNt : (fl i).toInt.toNat = N := by omega
    obtain ⟨ip, po, px, py, tp, kd, hEb, hsz, -, -, -, -, -, -, -, -, hro, hft⟩ := id (hPg i hi)
    rw [hNt] at hro hft
    have hmis : (ip 7).toInt = MIS (fP gop i) N := hft.1
    refine v_astore_n (lv' := [(0, .ref (ad 0)), (1, .int p), (2, .int m), (3, .ref (ad (9 + 6 * i)))]) C [1, 2, 3, 0] dX8_run_5 rfl (by decide) rfl ?_
    refine v_aload_n C 3 dX8_run_6 rfl rfl ?_
    refine v_ifnull C dX8_run_7 ?_
    refine v_iload_n C 2 dX8_run_10 rfl rfl ?_
    refine v_cSp C dX8_run_11 lX8_162 mX8_isMoment (c_isMoment l G _ ad _ m) ⟨by decide, by decide⟩ rfl (Nat.le_of_ble_eq_true rfl) ⟨Nat.zero_le _, Nat.zero_le _⟩ (fun r3 hp4 => ?_)
    rcases hp4 with ⟨rfl, hp4⟩ | ⟨rfl, hp4⟩
    · refine b_if_eq C 25 dX8_run_14 (by decide) (show (1 : Int32).toInt = 1 by decide) (fun c5 => absurd c5 (by decide)) (fun c5 => ?_)
      refine v_aload_n C 3 dX8_run_17 rfl rfl ?_
      refine v_geti (v := ip 7) C (9 + 6 * i) dX8_run_18 fX8_198 (by omega) hEb rfl rfl ?_
      refine v_iconst (v := (-1)) C dX8_run_21 (by decide) ?_
      refine b_icmp_eq C 28 dX8_run_22 (by decide) hmis (show ((-1) : Int32).toInt = (-1) by decide) (fun c6 => ?_) (fun c6 => ?_)
      · have hm : 0 ≤ m.toInt ∧ m.toInt < 60000000 := by omega
        refine v_aload_n C 0 dX8_run_28 rfl rfl ?_
        refine v_getr C 0 dX8_run_29 fX8_19 (by omega) h0 rfl rfl ?_
        refine v_aload_n C 0 dX8_run_32 rfl rfl ?_
        refine v_geti (v := io 7) C 0 dX8_run_33 fX8_56 (by omega) h0 rfl rfl ?_
        refine v_cVv C dX8_run_36 lX8_205 mX7_refresh 6 (by omega) h6 (by decide) rfl (g_refreshAll l G 0 ad _ hP hV h6 hzk h7 hfz hk5 hZ (io 7)) ⟨by decide, by decide⟩ rfl (Nat.le_of_ble_eq_true rfl) ⟨Nat.zero_le _, Nat.zero_le _⟩ (fun E7 hq8 => ?_)
        obtain ⟨hZ1, hY1, hO1⟩ := hq8
        rw [hio] at hY1
        have hK := hKc.kst hV hO1 hY1
        have rE7_0 := (hO1 0 (by omega)).trans h0
        have rE7_6 := (hO1 6 (by omega)).trans h6
        have rE7_7 := (hO1 7 (by omega)).trans h7
        have rE7_8 := (hO1 8 (by omega)).trans h8
        have rE7_48 := (hO1 48 (by omega)).trans h48
        have rE7_49 := (hO1 49 (by omega)).trans h49
        have rE7_96i := (hO1 (9 + 6 * i) (by omega)).trans hEb
        have h50a := (hO1 50 (by decide)).trans h50
        have hPg1 := (hPg i hi).keep (fun j _ g => hO1 j (by omega))
        obtain ⟨Kw, hwh⟩ := MIS_whole (ops := fP gop i) (n := N) (by omega)
        have hLi : ∀ j, j < N → okLn (k : Int) (fP gop i j).toInt (fP gx i j).toInt (fP gy i j).toInt := fun j hj => hLN i hi j (by omega)
        refine v_aload_n C 0 dX8_run_39 rfl rfl ?_
        refine v_getr C 0 dX8_run_40 fX8_42 (by omega) rE7_0 rfl rfl ?_
        refine v_getr C 48 dX8_run_43 fX8_209 (by omega) rE7_48 rfl rfl ?_
        refine v_aload_n C 3 dX8_run_46 rfl rfl ?_
        refine v_iload_n C 2 dX8_run_47 rfl rfl ?_
        refine v_cVi C dX8_run_48 lX8_213 mX2_answerOf 49 (by omega) rE7_49 (by decide) rfl (g_answerOf l G 0 ad _ hK (9 + 6 * i) (by omega) hPg1 hbi.1 hbi.2 hN hwh hLi h50a m hm) ⟨by decide, by decide⟩ rfl (Nat.le_of_ble_eq_true rfl) ⟨Nat.zero_le _, Nat.zero_le _⟩ (fun r9 E10 hq11 => ?_)
        obtain ⟨hrv, ⟨pv2, h50b⟩, hO2⟩ := hq11
        have rE10_0 := (hO2 0 (by omega)).trans rE7_0
        have rE10_6 := (hO2 6 (by omega)).trans rE7_6
        have rE10_7 := (hO2 7 (by omega)).trans rE7_7
        have rE10_8 := (hO2 8 (by omega)).trans rE7_8
        have rE10_48 := (hO2 48 (by omega)).trans rE7_48
        have rE10_49 := (hO2 49 (by omega)).trans rE7_49
        have rE10_96i := (hO2 (9 + 6 * i) (by omega)).trans rE7_96i
        have hKa := hK.go (fun j hj => hO2 j (by omega))
        exact v_ret C dX8_run_51 rfl rfl (Or.inr ⟨(by unfold okRN; rw [hit, hNt]; omega), by rw [hit, hNt]; exact hrv⟩)
      · refine v_ldc C dX8_run_25 kX8_204 ?_
        exact v_ret C dX8_run_27 rfl rfl (Or.inl ⟨(by unfold okRN; rw [hit, hNt]; omega), by decide⟩)
    · refine b_if_eq C 25 dX8_run_14 (by decide) (show (0 : Int32).toInt = 0 by decide) (fun c12 => ?_) (fun c12 => absurd c12 (by decide))
      refine v_ldc C dX8_run_25 kX8_204 ?_
      exact v_ret C dX8_run_27 rfl rfl (Or.inl ⟨(by unfold okRN; rw [hit, hNt]; omega), by decide⟩)

set_option maxRecDepth 20000 in
theorem k_keeps (l : Launch) (G : Gl) (n : Nat) (ad : Nat → Nat) (E : Nat → va_E) {k : Nat} {ic md fl gop gx gy rf rto ron rat rbe rtd rm fv : Nat → Int32} {kn : Int32} (hKc : KCl G ad k ic md kn fl gop gx gy rf rto ron rat rbe rtd rm fv E) (hV : ∀ z, z < k → RZv ic rf rto ron rat rbe rtd rm fv z) (hLN : LOK k fl gop gx gy) (p : Int32) (x : Int32) (v : Int32) (m : Int32) : CtI l G yX8_keeps cX8_keeps 6 .int 5 124 (98 + 9 * k) ad E [.ref (ad 0), .int p, .int x, .int v, .int m] (fun r E' => KPp k ic md (TTz ic md rf rto ron rat rbe rtd rm fv kn.toInt) fl gop gx gy p.toInt x.toInt v.toInt m.toInt r.toInt) := by
  refine CtI.of (by decide) (Nat.le_of_ble_eq_true rfl) (fun X A C => ?_)
  refine v_sub (lv' := [(0, .ref (ad 0)), (1, .int p), (2, .int x), (3, .int v), (4, .int m)]) [0, 1, 2, 3, 4] rfl ?_
  obtain ⟨⟨io, h0, hio⟩, hC, ⟨iz, fz, h6, hzk, h7, hfz⟩, ⟨fp, h8, hfp⟩, hPg, hbl, ⟨i48, h48⟩, ⟨i49, h49⟩, ⟨pv, h50⟩, hZ, hk5⟩ := id hKc
  have hP : CalP ic md := by obtain ⟨ms, ld, ys, -, -, -, -, -, hP, -⟩ := hC; exact hP
  refine v_aload_n C 0 dX8_keeps_0 rfl rfl ?_
  refine v_iload_n C 1 dX8_keeps_1 rfl rfl ?_
  refine v_cVr C dX8_keeps_2 lX8_177 mX8_programAt 0 (by omega) h0 (by decide) rfl (g_programAt l G _ ad _ (by omega) h0 h8 hfp p) ⟨by decide, by decide⟩ rfl (Nat.le_of_ble_eq_true rfl) ⟨Nat.zero_le _, Nat.zero_le _⟩ (fun r1 hp2 => ?_)
  rcases hp2 with ⟨hno, rfl⟩ | ⟨i, hi, hpi, rfl⟩
  · refine v_astoreN (lv' := [(0, .ref (ad 0)), (1, .int p), (2, .int x), (3, .int v), (4, .int m), (5, .null)]) C [1, 2, 3, 4, 5, 0] dX8_keeps_5 (by decide) rfl ?_
    refine v_aloadN C 5 dX8_keeps_7 rfl ?_
    refine v_ifnullN C 29 dX8_keeps_9 (by decide) ?_
    refine v_iconst (v := (-1)) C dX8_keeps_29 (by decide) ?_
    exact v_ret C dX8_keeps_30 rfl rfl (Or.inl ⟨(fun q => by obtain ⟨q1, q2, q3⟩ := q; first | exact absurd q2 hlw | omega), by decide⟩)
  · have hit : p.toInt.toNat = i := by omega
    have hbi := hbl i
    obtain ⟨N, hN⟩ : ∃ N : Nat, (fl i).toInt = (N : Int) := ⟨(fl i).toInt.toNat, by omega⟩
    have hNt : (fl i).toInt.toNat = N := by omega
    obtain ⟨ip, po, px, py, tp, kd, hEb, hsz, -, -, -, -, -, -, -, -, hro, hft⟩ := id (hPg i hi)
    rw [hNt] at hro hft
    have hmis : (ip 7).toInt = MIS (fP gop i) N := hft.1
    refine v_astore (lv' := [(0, .ref (ad 0)), (1, .int p), (2, .int x), (3, .int v), (4, .int m), (5, .ref (ad (9 + 6 * i)))]) C [1, 2, 3, 4, 5, 0] dX8_keeps_5 (by decide) rfl ?_
    refine v_aload C 5 dX8_keeps_7 rfl ?_
    refine v_ifnull C dX8_keeps_9 ?_
    refine v_aload_n C 0 dX8_keeps_12 rfl rfl ?_
    refine v_iload_n C 2 dX8_keeps_13 rfl rfl ?_
    refine v_iload_n C 3 dX8_keeps_14 rfl rfl ?_
    refine v_cVp C dX8_keeps_15 lX8_219 mX8_isLaw 0 (by omega) h0 (by decide) rfl (g_isLaw l G _ ad _ (by omega) h0 h6 hzk x v) ⟨by decide, by decide⟩ rfl (Nat.le_of_ble_eq_true rfl) ⟨Nat.zero_le _, Nat.zero_le _⟩ (fun r3 hp4 => ?_)
    rcases hp4 with ⟨rfl, hlw⟩ | ⟨rfl, hlw⟩
    · refine b_if_eq C 29 dX8_keeps_18 (by decide) (show (1 : Int32).toInt = 1 by decide) (fun c5 => absurd c5 (by decide)) (fun c5 => ?_)
      refine v_iload C 4 dX8_keeps_21 rfl ?_
      refine v_cSp C dX8_keeps_23 lX8_162 mX8_isMoment (c_isMoment l G _ ad _ m) ⟨by decide, by decide⟩ rfl (Nat.le_of_ble_eq_true rfl) ⟨Nat.zero_le _, Nat.zero_le _⟩ (fun r6 hp7 => ?_)
      rcases hp7 with ⟨rfl, hp7⟩ | ⟨rfl, hp7⟩
      · refine b_if_ne C 31 dX8_keeps_26 (by decide) (show (1 : Int32).toInt = 1 by decide) (fun c8 => ?_) (fun c8 => absurd c8 (by decide))
        have hm : 0 ≤ m.toInt ∧ m.toInt < 60000000 := by omega
        refine v_aload C 5 dX8_keeps_31 rfl ?_
        refine v_geti (v := ip 7) C (9 + 6 * i) dX8_keeps_33 fX8_198 (by omega) hEb rfl rfl ?_
        refine v_iconst (v := (-1)) C dX8_keeps_36 (by decide) ?_
        refine b_icmp_eq C 43 dX8_keeps_37 (by decide) hmis (show ((-1) : Int32).toInt = (-1) by decide) (fun c9 => ?_) (fun c9 => ?_)
        · have hlx := hlw.1
          refine v_aload_n C 0 dX8_keeps_43 rfl rfl ?_
          refine v_getr C 0 dX8_keeps_44 fX8_19 (by omega) h0 rfl rfl ?_
          refine v_aload_n C 0 dX8_keeps_47 rfl rfl ?_
          refine v_geti (v := io 7) C 0 dX8_keeps_48 fX8_56 (by omega) h0 rfl rfl ?_
          refine v_cVv C dX8_keeps_51 lX8_205 mX7_refresh 6 (by omega) h6 (by decide) rfl (g_refreshAll l G 0 ad _ hP hV h6 hzk h7 hfz hk5 hZ (io 7)) ⟨by decide, by decide⟩ rfl (Nat.le_of_ble_eq_true rfl) ⟨Nat.zero_le _, Nat.zero_le _⟩ (fun E10 hq11 => ?_)
          obtain ⟨hZ1, hY1, hO1⟩ := hq11
          rw [hio] at hY1
          have hK := hKc.kst hV hO1 hY1
          have rE10_0 := (hO1 0 (by omega)).trans h0
          have rE10_6 := (hO1 6 (by omega)).trans h6
          have rE10_7 := (hO1 7 (by omega)).trans h7
          have rE10_8 := (hO1 8 (by omega)).trans h8
          have rE10_48 := (hO1 48 (by omega)).trans h48
          have rE10_49 := (hO1 49 (by omega)).trans h49
          have rE10_96i := (hO1 (9 + 6 * i) (by omega)).trans hEb
          have h50a := (hO1 50 (by decide)).trans h50
          have hPg1 := (hPg i hi).keep (fun j _ g => hO1 j (by omega))
          obtain ⟨Kw, hwh⟩ := MIS_whole (ops := fP gop i) (n := N) (by omega)
          have hLi : ∀ j, j < N → okLn (k : Int) (fP gop i j).toInt (fP gx i j).toInt (fP gy i j).toInt := fun j hj => hLN i hi j (by omega)
          refine v_aload_n C 0 dX8_keeps_54 rfl rfl ?_
          refine v_getr C 0 dX8_keeps_55 fX8_42 (by omega) rE10_0 rfl rfl ?_
          refine v_iload_n C 2 dX8_keeps_58 rfl rfl ?_
          refine v_bipush (v := 10) C dX8_keeps_59 (by decide) ?_
          refine v_irem C dX8_keeps_61 (by decide) ?_
          refine v_top (fun x12 ex12 => ?_)
          have hx12 : x12.toInt = (x.toInt % 10) := by rw [ex12]; exact ti_rem (rfl : Int32.toInt x = _) (show (10 : Int32).toInt = 10 by decide) (by omega) (by omega)
          refine v_iload_n C 2 dX8_keeps_62 rfl rfl ?_
          refine v_bipush (v := 10) C dX8_keeps_63 (by decide) ?_
          refine v_idiv C dX8_keeps_65 (by decide) ?_
          refine v_top (fun x13 ex13 => ?_)
          have hx13 : x13.toInt = (x.toInt / 10) := by rw [ex13]; exact ti_div (rfl : Int32.toInt x = _) (show (10 : Int32).toInt = 10 by decide) (by omega) (by omega)
          refine v_iload_n C 3 dX8_keeps_66 rfl rfl ?_
          refine v_cVv C dX8_keeps_67 lX8_223 mX1_hear 48 (by omega) rE10_48 (by decide) rfl (g_hear l G _ ad _ (by omega) rE10_48 x12 x13 v) ⟨by decide, by decide⟩ rfl (Nat.le_of_ble_eq_true rfl) ⟨Nat.zero_le _, Nat.zero_le _⟩ (fun E14 hq15 => ?_)
          obtain ⟨j48, h48b, hj4, hj5, hj6, hO3⟩ := hq15
          have rE14_0 := (hO3 0 (by omega)).trans rE10_0
          have rE14_6 := (hO3 6 (by omega)).trans rE10_6
          have rE14_7 := (hO3 7 (by omega)).trans rE10_7
          have rE14_8 := (hO3 8 (by omega)).trans rE10_8
          have rE14_49 := (hO3 49 (by omega)).trans rE10_49
          have rE14_96i := (hO3 (9 + 6 * i) (by omega)).trans rE10_96i
          have hKb := hK.go (fun j hj => hO3 j (by omega))
          have h50c := (hO3 50 (by decide)).trans h50a
          have hPg2 := hPg1.keep (fun j _ g => hO3 j (by omega))
          have hl4 : (j48 4).toInt = x.toInt % 10 := by rw [hj4]; exact hx12
          have hl5 : (j48 5).toInt = x.toInt / 10 := by rw [hj5]; exact hx13
          have hl6 : (j48 6).toInt = v.toInt := by rw [hj6]
          refine v_aload_n C 0 dX8_keeps_70 rfl rfl ?_
          refine v_getr C 0 dX8_keeps_71 fX8_42 (by omega) rE14_0 rfl rfl ?_
          refine v_aload C 5 dX8_keeps_74 rfl ?_
          refine v_geti (v := ip 8) C (9 + 6 * i) dX8_keeps_76 fX8_201 (by omega) rE14_96i rfl rfl ?_
          refine v_aload_n C 0 dX8_keeps_79 rfl rfl ?_
          refine v_getr C 0 dX8_keeps_80 fX8_42 (by omega) rE14_0 rfl rfl ?_
          refine v_getr C 48 dX8_keeps_83 fX8_209 (by omega) h48b rfl rfl ?_
          refine v_aload C 5 dX8_keeps_86 rfl ?_
          refine v_iload C 4 dX8_keeps_88 rfl ?_
          refine v_cVi C dX8_keeps_90 lX8_213 mX2_answerOf 49 (by omega) rE14_49 (by decide) rfl (g_answerOf l G 0 ad _ hKb (9 + 6 * i) (by omega) hPg2 hbi.1 hbi.2 hN hwh hLi h50c m hm) ⟨by decide, by decide⟩ rfl (Nat.le_of_ble_eq_true rfl) ⟨Nat.zero_le _, Nat.zero_le _⟩ (fun r16 E17 hq18 => ?_)
          obtain ⟨hrv, ⟨pv2, h50b⟩, hO2⟩ := hq18
          have rE17_0 := (hO2 0 (by omega)).trans rE14_0
          have rE17_6 := (hO2 6 (by omega)).trans rE14_6
          have rE17_7 := (hO2 7 (by omega)).trans rE14_7
          have rE17_8 := (hO2 8 (by omega)).trans rE14_8
          have rE17_48 := (hO2 48 (by omega)).trans h48b
          have rE17_49 := (hO2 49 (by omega)).trans rE14_49
          have rE17_96i := (hO2 (9 + 6 * i) (by omega)).trans rE14_96i
          have hKa := hKb.go (fun j hj => hO2 j (by omega))
          refine v_iload C 4 dX8_keeps_93 rfl ?_
          have hKd : (ip 8).toInt = KDr (fP gop i) N := by rw [hft.2.1 Kw hwh, KD_of hwh]
          have hK0 := (RS_ok N _ hwh).2 0 (show ((0 : Nat) : Int) < 1 by decide)
          dsimp only at hK0
          have hK8 : (ip 8).toInt = (Kw 0).toInt := by rw [hft.2.1 Kw hwh]
          have hwi := RU_bd (ic := ic) (md := md) (TT := (TTz ic md rf rto ron rat rbe rtd rm fv kn.toInt)) (fx := fP gx i) (fy := fP gy i) hm hro hwh
          rw [← hrv, ← hK8] at hwi
          refine v_cVp C dX8_keeps_95 lX8_226 mX1_holds 48 (by omega) rE17_48 (by decide) rfl (g_holds l G 0 ad _ hKa rE17_48 (zz := (x.toInt / 10).toNat) (by unfold okLW at hlw; omega) (fun q => by unfold okLW at hlw; omega) (ip 8) r16 m hwi (by omega) hm) ⟨by decide, by decide⟩ rfl (Nat.le_of_ble_eq_true rfl) ⟨Nat.zero_le _, Nat.zero_le _⟩ (fun r19 hp20 => ?_)
          rw [hl4, hl6, hKd, hrv] at hp20
          rcases hp20 with ⟨rfl, hkp⟩ | ⟨rfl, hkp⟩
          · refine b_if_eq C 105 dX8_keeps_98 (by decide) (show (1 : Int32).toInt = 1 by decide) (fun c21 => absurd c21 (by decide)) (fun c21 => ?_)
            refine v_iconst (v := 1) C dX8_keeps_101 (by decide) ?_
            refine v_goto C 106 dX8_keeps_102 (by decide) ?_
            exact v_ret C dX8_keeps_106 rfl rfl (Or.inr (Or.inr ⟨(by unfold okKP; exact ⟨by omega, hlw, hm⟩), (by rw [hit, hNt]; omega), (by rw [hit, hNt]; exact Or.inl ⟨hkp, by decide⟩)⟩))
          · refine b_if_eq C 105 dX8_keeps_98 (by decide) (show (0 : Int32).toInt = 0 by decide) (fun c22 => ?_) (fun c22 => absurd c22 (by decide))
            refine v_iconst (v := 0) C dX8_keeps_105 (by decide) ?_
            exact v_ret C dX8_keeps_106 rfl rfl (Or.inr (Or.inr ⟨(by unfold okKP; exact ⟨by omega, hlw, hm⟩), (by rw [hit, hNt]; omega), (by rw [hit, hNt]; exact Or.inr ⟨hkp, by decide⟩)⟩))
        · refine v_bipush (v := (-4)) C dX8_keeps_40 (by decide) ?_
          exact v_ret C dX8_keeps_42 rfl rfl (Or.inr (Or.inl ⟨(by unfold okKP; exact ⟨by omega, hlw, hm⟩), (by rw [hit, hNt]; omega), by decide⟩))
      · refine b_if_ne C 31 dX8_keeps_26 (by decide) (show (0 : Int32).toInt = 0 by decide) (fun c23 => absurd c23 (by decide)) (fun c23 => ?_)
        refine v_iconst (v := (-1)) C dX8_keeps_29 (by decide) ?_
        exact v_ret C dX8_keeps_30 rfl rfl (Or.inl ⟨(fun q => by obtain ⟨q1, q2, q3⟩ := q; first | exact absurd q2 hlw | omega), by decide⟩)
    · refine b_if_eq C 29 dX8_keeps_18 (by decide) (show (0 : Int32).toInt = 0 by decide) (fun c24 => ?_) (fun c24 => absurd c24 (by decide))
      refine v_iconst (v := (-1)) C dX8_keeps_29 (by decide) ?_
      exact v_ret C dX8_keeps_30 rfl rfl (Or.inl ⟨(fun q => by obtain ⟨q1, q2, q3⟩ := q; first | exact absurd q2 hlw | omega), by decide⟩)

