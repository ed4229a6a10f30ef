set_option maxRecDepth 20000 in
theorem c_refresh0 (l : Launch) (G : Gl) (n : Nat) (ad : Nat → Nat) (E : Nat → va_E) (hN : 52 ≤ n) {iz : Nat → Int32} (hE6 : E 6 = ob 7 (rfs ad [7]) iz) (hz : (iz 1).toInt = 0) (k : Int32)  : CtV l G yX7_refresh cX7_refresh 4 0 0 n ad E [.ref (ad 6), .int k] (fun E' => E = E') := by
  refine CtV.of (by decide) (Nat.le_of_ble_eq_true rfl) (fun X A C => ?_)
  refine v_sub (lv' := [(0, .ref (ad 6)), (1, .int k)]) [0, 1] rfl ?_
  refine v_iconst (v := 0) C dX7_refresh_0 (by decide) ?_
  refine v_istore_n (lv' := [(0, .ref (ad 6)), (1, .int k), (2, .int 0)]) C [1, 2, 0] dX7_refresh_1 rfl (by decide) rfl ?_
  refine v_iload_n C 2 dX7_refresh_2 rfl rfl ?_
  refine v_aload_n C 0 dX7_refresh_3 rfl rfl ?_
  refine v_geti (v := iz 1) C 6 dX7_refresh_4 fX7_17 (by omega) hE6 rfl rfl ?_
  refine b_icmp_ge C 32 dX7_refresh_7 (by decide) (show (0 : Int32).toInt = 0 by decide) hz (fun c1 => ?_) (fun c1 => by exfalso; omega)
  exact v_vret C dX7_refresh_32 rfl rfl

set_option maxRecDepth 20000 in
theorem lp_fill {X : Mx} {l : Launch} {G : Gl} {A : Nat → Prop} {ret : Option FieldType} {R : Room} {Q : State → Prop} {n : Nat} {ad : Nat → Nat} (C : Cx X l G A "OddHours$Odds" cX4_gather 8 ret R) (hq : 48 ≤ n) (a b dd x5 : Int32) {W : Nat} (hx5 : x5.toInt = (W : Int)) (hW : W ≤ 31251) (E0 : Nat → va_E) {iq : Nat → Int32} (h45 : E0 45 = ob 4 (rfs ad [46, 47]) iq)
    (kont : ∀ (E : Nat → va_E) (mk : Nat → Int64) (x6 : Int32), E 46 = aJ G 31251 mk → (∀ j, j < W → mk j = 0) → (∀ j, j ≠ 46 → E j = E0 j) → V X G A 8 Q n ad 0 0 E 81 [(0, .ref (ad 45)), (1, .int a), (2, .int b), (3, .ref (ad 6)), (4, .int dd), (5, .int x5), (6, .int x6)] []) :
    ∀ (t k : Nat) (E : Nat → va_E) (mk : Nat → Int64) (x6 : Int32), k + t = W → x6.toInt = (k : Int) → E 46 = aJ G 31251 mk → (∀ j, j < k → mk j = 0) → (∀ j, j ≠ 46 → E j = E0 j) → V X G A 8 Q n ad 0 0 E 60 [(0, .ref (ad 45)), (1, .int a), (2, .int b), (3, .ref (ad 6)), (4, .int dd), (5, .int x5), (6, .int x6)] [] := by
  intro t
  induction t with
  | zero =>
    intro k E mk x6 hk hx6 hE46 hi hfr
    have hE45 := (hfr 45 (by decide)).trans h45
    refine v_iload C 6 dX4_gather_60 rfl ?_
    refine v_iload C 5 dX4_gather_62 rfl ?_
    refine b_icmp_ge C 81 dX4_gather_64 (by decide) hx6 hx5 (fun c31 => ?_) (fun c31 => by exfalso; omega)
    exact kont E mk x6 hE46 (fun j hj => hi j (by omega)) hfr
  | succ t ih =>
    intro k E mk x6 hk hx6 hE46 hi hfr
    have hE45 := (hfr 45 (by decide)).trans h45
    refine v_iload C 6 dX4_gather_60 rfl ?_
    refine v_iload C 5 dX4_gather_62 rfl ?_
    refine b_icmp_ge C 81 dX4_gather_64 (by decide) hx6 hx5 (fun c31 => by exfalso; omega) (fun c31 => ?_)
    refine v_aload_n C 0 dX4_gather_67 rfl rfl ?_
    refine v_getr C 45 dX4_gather_68 fX4_9 (by omega) hE45 rfl rfl ?_
    refine v_iload C 6 dX4_gather_71 rfl ?_
    refine v_lconst (v := 0) C dX4_gather_73 (by decide) ?_
    refine v_jast C 46 dX4_gather_74 (by omega) hE46 (ti_in hx6 (by omega) (by omega)) (fun E32 hE32_46 oE32 => ?_)
    rw [ti_cl hx6, show Int.toNat (k : Int) = k by omega] at hE32_46
    have hE32_45 := (oE32 45 (by decide)).trans hE45
    obtain ⟨x33, ex33⟩ : ∃ y : Int32, y = x6 + 1 := ⟨_, rfl⟩
    have hx33 : x33.toInt = ((k : Int) + 1) := by rw [ex33]; exact ti_add hx6 (show (1 : Int32).toInt = 1 by decide) (by omega) (by omega)
    refine v_iinc (v := x33) (lv' := [(0, .ref (ad 45)), (1, .int a), (2, .int b), (3, .ref (ad 6)), (4, .int dd), (5, .int x5), (6, .int x33)]) C 6 [1, 2, 3, 4, 5, 6, 0] dX4_gather_75 rfl (ex33.symm) (by decide) rfl ?_
    refine v_goto C 60 dX4_gather_78 (by decide) ?_
    exact ih (k + 1) _ _ x33 (by omega) (by rw [hx33]; omega) hE32_46 (fun j hj => by by_cases h : j = k; (subst h; rw [pk_uLs]); (rw [pk_uLn h]; exact hi j (by omega))) (fun j h => (oE32 j h).trans (hfr j h))

set_option maxRecDepth 20000 in
theorem c_gather0 (l : Launch) (G : Gl) (n : Nat) (ad : Nat → Nat) (E : Nat → va_E) (hN : 52 ≤ n) {iz iq lq : Nat → Int32} {mk : Nat → Int64} (hE6 : E 6 = ob 7 (rfs ad [7]) iz) (hz : (iz 1).toInt = 0) (hE45 : E 45 = ob 4 (rfs ad [46, 47]) iq) (h5 : (iq 5).toInt = 0) (hE46 : E 46 = aJ G 31251 mk) (hE47 : E 47 = aI G 26002 lq) (a b dd : Int32) {fa D : Nat} (ha : a.toInt = (fa : Int)) (hb : b.toInt = (fa : Int) + (D : Int)) (hfb : fa + D < 60000000) (hDm : D ≤ 2000000)  : CtV l G yX4_gather cX4_gather 8 2 48 n ad E [.ref (ad 45), .int a, .int b, .ref (ad 6), .int dd] (fun E' => ∃ iq2 lq2 : Nat → Int32, E' 45 = ob 4 (rfs ad [46, 47]) iq2 ∧ (iq2 2).toInt = (if D = 0 then 1 else 2) ∧ E' 47 = aI G 26002 lq2 ∧ (lq2 0).toInt = (fa : Int) ∧ (D ≠ 0 → (lq2 1).toInt = (fa : Int) + (D : Int)) ∧ ∀ j, j ≠ 45 → j ≠ 46 → j ≠ 47 → E' j = E j) := by
  refine CtV.of (by decide) (Nat.le_of_ble_eq_true rfl) (fun X A C => ?_)
  refine v_sub (lv' := [(0, .ref (ad 45)), (1, .int a), (2, .int b), (3, .ref (ad 6)), (4, .int dd)]) [0, 1, 2, 3, 4] rfl ?_
  refine v_aload_n C 0 dX4_gather_0 rfl rfl ?_
  refine v_geti (v := iq 5) C 45 dX4_gather_1 fX4_19 (by omega) hE45 rfl rfl ?_
  refine b_if_eq C 24 dX4_gather_4 (by decide) h5 (fun c1 => ?_) (fun c1 => by exfalso; omega)
  refine v_aload_n C 0 dX4_gather_24 rfl rfl ?_
  refine v_iconst (v := 1) C dX4_gather_25 (by decide) ?_
  refine v_puti C 45 dX4_gather_26 fX4_19 (by omega) hE45 rfl rfl rfl rfl (fun E2 hE2_45 oE2 => ?_)
  have hE2_6 := (oE2 6 (by decide)).trans hE6
  have hE2_46 := (oE2 46 (by decide)).trans hE46
  have hE2_47 := (oE2 47 (by decide)).trans hE47
  refine v_aload_n C 0 dX4_gather_29 rfl rfl ?_
  refine v_iload_n C 1 dX4_gather_30 rfl rfl ?_
  refine v_puti C 45 dX4_gather_31 fX4_23 (by omega) hE2_45 rfl rfl rfl rfl (fun E3 hE3_45 oE3 => ?_)
  have hE3_6 := (oE3 6 (by decide)).trans hE2_6
  have hE3_46 := (oE3 46 (by decide)).trans hE2_46
  have hE3_47 := (oE3 47 (by decide)).trans hE2_47
  refine v_aload_n C 0 dX4_gather_34 rfl rfl ?_
  refine v_iload_n C 2 dX4_gather_35 rfl rfl ?_
  refine v_puti C 45 dX4_gather_36 fX4_27 (by omega) hE3_45 rfl rfl rfl rfl (fun E4 hE4_45 oE4 => ?_)
  have hE4_6 := (oE4 6 (by decide)).trans hE3_6
  have hE4_46 := (oE4 46 (by decide)).trans hE3_46
  have hE4_47 := (oE4 47 (by decide)).trans hE3_47
  refine v_iload_n C 2 dX4_gather_39 rfl rfl ?_
  refine v_iload_n C 1 dX4_gather_40 rfl rfl ?_
  refine v_isub C dX4_gather_41 ?_
  refine v_top (fun x5 ex5 => ?_)
  have hx5 : x5.toInt = (((fa : Int) + (D : Int)) - (fa : Int)) := by rw [ex5]; exact ti_sub hb ha (by omega) (by omega)
  refine v_bipush (v := 64) C dX4_gather_42 (by decide) ?_
  refine v_idiv C dX4_gather_44 (by decide) ?_
  refine v_top (fun x6 ex6 => ?_)
  have hx6 : x6.toInt = ((((fa : Int) + (D : Int)) - (fa : Int)) / 64) := by rw [ex6]; exact ti_div hx5 (show (64 : Int32).toInt = 64 by decide) (by omega) (by omega)
  refine v_iconst (v := 1) C dX4_gather_45 (by decide) ?_
  refine v_iadd C dX4_gather_46 ?_
  refine v_top (fun x7 ex7 => ?_)
  have hx7 : x7.toInt = (((((fa : Int) + (D : Int)) - (fa : Int)) / 64) + 1) := by rw [ex7]; exact ti_add hx6 (show (1 : Int32).toInt = 1 by decide) (by omega) (by omega)
  refine v_aload_n C 0 dX4_gather_47 rfl rfl ?_
  refine v_getr C 45 dX4_gather_48 fX4_9 (by omega) hE4_45 rfl rfl ?_
  refine v_alenJ (v := 31251) C 46 dX4_gather_51 (by omega) hE4_46 (by decide) ?_
  refine v_mmin C dX4_gather_52 lX4_30 mJ9_min_7cf53.2.2.1 mJ9_min_7cf53.2.1 mJ9_min_7cf53.1 ⟨by decide, by decide⟩ ⟨Nat.zero_le _, Nat.zero_le _⟩ ?_
  refine v_top (fun x8 ex8 => ?_)
  have hx8 : x8.toInt = ((D / 64 + 1 : Nat) : Int) := by rw [ex8, if_neg (fun h => by have := Int32.lt_iff_toInt_lt.mp h; rw [hx7, show (31251 : Int32).toInt = 31251 by decide] at this; omega), hx7]; omega
  refine v_istore (lv' := [(0, .ref (ad 45)), (1, .int a), (2, .int b), (3, .ref (ad 6)), (4, .int dd), (5, .int x8)]) C [1, 2, 3, 4, 5, 0] dX4_gather_55 (by decide) rfl ?_
  refine v_iconst (v := 0) C dX4_gather_57 (by decide) ?_
  refine v_istore (lv' := [(0, .ref (ad 45)), (1, .int a), (2, .int b), (3, .ref (ad 6)), (4, .int dd), (5, .int x8), (6, .int 0)]) C [1, 2, 3, 4, 5, 6, 0] dX4_gather_58 (by decide) rfl ?_
  refine lp_fill C (by omega) a b dd x8 hx8 (by omega) E4 hE4_45 (fun E9 mk9 x9 h9 hz9 hf9 => ?_) (D / 64 + 1) 0 E4 mk 0 (by omega) (show (0 : Int32).toInt = 0 by decide) hE4_46 (fun j hj => by omega) (fun j _ => rfl)
  have h9_6 := (hf9 6 (by decide)).trans hE4_6
  have h9_45 := (hf9 45 (by decide)).trans hE4_45
  have h9_47 := (hf9 47 (by decide)).trans hE4_47
  refine v_aload_n C 0 dX4_gather_81 rfl rfl ?_
  refine v_iload_n C 1 dX4_gather_82 rfl rfl ?_
  refine v_cVv C dX4_gather_83 lX4_36 mX4_mark 45 (by omega) h9_45 (by decide) rfl (c_mark0 l G n ad _ (by omega) h9_45 h9 a (fa := fa) (D := 0) (tb_ := fa + D) (show Int32.toInt a = _ from ha) (show Int32.toInt b = _ by rw [hb]; omega) (by omega) (by omega) (by omega) (by omega)) ⟨by decide, by decide⟩ rfl (Nat.le_of_ble_eq_true rfl) ⟨Nat.zero_le _, Nat.zero_le _⟩ (fun E9 hq10 => ?_)
  obtain ⟨hE9_46, oE9⟩ := hq10
  have hE9_6 := (oE9 6 (by decide)).trans h9_6
  have hE9_45 := (oE9 45 (by decide)).trans h9_45
  have hE9_47 := (oE9 47 (by decide)).trans h9_47
  obtain ⟨mk1, emk1⟩ : ∃ g : Nat → Int64, g = vp_updL mk9 (0 / 64) (mk9 (0 / 64) ||| pw (0 % 64)) := ⟨_, rfl⟩
  rw [← emk1] at hE9_46
  have hm1 : mk1 0 = 1 := by rw [emk1]; show vp_updL mk9 0 (mk9 0 ||| pw 0) 0 = 1; rw [pk_uLs, hz9 0 (by omega)]; decide
  have hm1z : ∀ j, 1 ≤ j → j < D / 64 + 1 → mk1 j = 0 := fun j h1 h2 => by rw [emk1]; show vp_updL mk9 0 (mk9 0 ||| pw 0) j = 0; rw [pk_uLn (by omega)]; exact hz9 j (by omega)
  refine v_aload_n C 0 dX4_gather_86 rfl rfl ?_
  refine v_iload_n C 2 dX4_gather_87 rfl rfl ?_
  refine v_cVv C dX4_gather_88 lX4_36 mX4_mark 45 (by omega) hE9_45 (by decide) rfl (c_mark0 l G n ad _ (by omega) hE9_45 hE9_46 b (fa := fa) (D := D) (tb_ := fa + D) (show Int32.toInt a = _ from ha) (show Int32.toInt b = _ by rw [hb]; omega) (by omega) (by omega) (by omega) (by omega)) ⟨by decide, by decide⟩ rfl (Nat.le_of_ble_eq_true rfl) ⟨Nat.zero_le _, Nat.zero_le _⟩ (fun E11 hq12 => ?_)
  obtain ⟨hE11_46, oE11⟩ := hq12
  have hE11_6 := (oE11 6 (by decide)).trans hE9_6
  have hE11_45 := (oE11 45 (by decide)).trans hE9_45
  have hE11_47 := (oE11 47 (by decide)).trans hE9_47
  obtain ⟨mk2, emk2⟩ : ∃ g : Nat → Int64, g = vp_updL mk1 (D / 64) (mk1 (D / 64) ||| pw (D % 64)) := ⟨_, rfl⟩
  rw [← emk2] at hE11_46
  refine v_iconst (v := 0) C dX4_gather_91 (by decide) ?_
  refine v_istore (lv' := [(0, .ref (ad 45)), (1, .int a), (2, .int b), (3, .ref (ad 6)), (4, .int dd), (5, .int x8), (6, .int 0)]) C [1, 2, 3, 4, 5, 6, 0] dX4_gather_92 (by decide) rfl ?_
  refine v_iload C 6 dX4_gather_94 rfl ?_
  refine v_aload_n C 3 dX4_gather_96 rfl rfl ?_
  refine v_geti (v := iz 1) C 6 dX4_gather_97 fX4_40 (by omega) hE11_6 rfl rfl ?_
  refine b_icmp_ge C 136 dX4_gather_100 (by decide) (show (0 : Int32).toInt = 0 by decide) hz (fun c13 => ?_) (fun c13 => by exfalso; omega)
  refine v_aload_n C 0 dX4_gather_136 rfl rfl ?_
  refine v_iload C 5 dX4_gather_137 rfl ?_
  rcases (show D = 0 ∨ (1 ≤ D ∧ D < 64) ∨ 64 ≤ D by omega) with q | ⟨q1, q2⟩ | q
  · refine v_cVv C dX4_gather_139 lX4_57 mX4_listMarks 45 (by omega) hE11_45 (by decide) rfl (c_list1 l G n ad _ (by omega) hE11_45 hE11_46 hE11_47 x8 (fa := fa) (D := D) (W := D / 64 + 1) hx8 (show Int32.toInt a = _ from ha) (by omega) (by omega) q (by omega) (by rw [emk2, show D / 64 = 0 by omega, show D % 64 = 0 by omega, pk_uLs, hm1]; decide)) ⟨by decide, by decide⟩ rfl (Nat.le_of_ble_eq_true rfl) ⟨Nat.zero_le _, Nat.zero_le _⟩ (fun E14 hq15 => ?_)
    obtain ⟨iq2, lq2, g45, _, gc, g47, g0, g1, gO⟩ := hq15
    exact v_vret C dX4_gather_142 rfl ⟨iq2, lq2, g45, gc, g47, g0, g1, fun j h5 h6 h7 => ((gO j h5 h7).trans ((oE11 j h6).trans ((oE9 j h6).trans ((hf9 j h6).trans ((oE4 j h5).trans ((oE3 j h5).trans (oE2 j h5)))))))⟩
  · refine v_cVv C dX4_gather_139 lX4_57 mX4_listMarks 45 (by omega) hE11_45 (by decide) rfl (c_list2 l G n ad _ (by omega) hE11_45 hE11_46 hE11_47 x8 (fa := fa) (D := D) (W := D / 64 + 1) hx8 (show Int32.toInt a = _ from ha) (by omega) (by omega) q1 q2 (by omega) (by rw [emk2, show D / 64 = 0 by omega, show D % 64 = D by omega, pk_uLs, hm1])) ⟨by decide, by decide⟩ rfl (Nat.le_of_ble_eq_true rfl) ⟨Nat.zero_le _, Nat.zero_le _⟩ (fun E16 hq17 => ?_)
    obtain ⟨iq2, lq2, g45, _, gc, g47, g0, g1, gO⟩ := hq17
    exact v_vret C dX4_gather_142 rfl ⟨iq2, lq2, g45, gc, g47, g0, g1, fun j h5 h6 h7 => ((gO j h5 h7).trans ((oE11 j h6).trans ((oE9 j h6).trans ((hf9 j h6).trans ((oE4 j h5).trans ((oE3 j h5).trans (oE2 j h5)))))))⟩
  · refine v_cVv C dX4_gather_139 lX4_57 mX4_listMarks 45 (by omega) hE11_45 (by decide) rfl (c_list3 l G n ad _ (by omega) hE11_45 hE11_46 hE11_47 x8 (fa := fa) (D := D) (W := D / 64 + 1) hx8 (show Int32.toInt a = _ from ha) (by omega) (by omega) q (by omega) rfl (by rw [emk2, pk_uLn (by omega)]; exact hm1) (by rw [emk2, pk_uLs, hm1z _ (by omega) (by omega)]; exact pw_or0 _ (by omega)) (fun j h1 h2 => by rw [emk2, pk_uLn (by omega)]; exact hm1z j h1 (by omega))) ⟨by decide, by decide⟩ rfl (Nat.le_of_ble_eq_true rfl) ⟨Nat.zero_le _, Nat.zero_le _⟩ (fun E18 hq19 => ?_)
    obtain ⟨iq2, lq2, g45, _, gc, g47, g0, g1, gO⟩ := hq19
    exact v_vret C dX4_gather_142 rfl ⟨iq2, lq2, g45, gc, g47, g0, g1, fun j h5 h6 h7 => ((gO j h5 h7).trans ((oE11 j h6).trans ((oE9 j h6).trans ((hf9 j h6).trans ((oE4 j h5).trans ((oE3 j h5).trans (oE2 j h5)))))))⟩

set_option maxRecDepth 20000 in
theorem c_gatherOdds0 (l : Launch) (G : Gl) (n : Nat) (ad : Nat → Nat) (E : Nat → va_E) (hN : 52 ≤ n) {io iz : Nat → Int32} (hE0 : E 0 = ob 8 (rfs ad [1, 6, 8, 48, 45, 51]) io) (hE6 : E 6 = ob 7 (rfs ad [7]) iz) (hz : (iz 1).toInt = 0) {iq lq : Nat → Int32} {mk : Nat → Int64} (hE45 : E 45 = ob 4 (rfs ad [46, 47]) iq) (h5 : (iq 5).toInt = 0) (hE46 : E 46 = aJ G 31251 mk) (hE47 : E 47 = aI G 26002 lq) {ic md ms ld ys : Nat → Int32} (hE1 : E 1 = ob 0 (rfs ad [2, 3, 4, 5]) ic) (hE2 : E 2 = aI G 12 md) (hE3 : E 3 = aI G 12 ms) (hE4 : E 4 = aI G 100 ld) (hE5 : E 5 = aI G 101 ys) (hP : CalP ic md) (hF : CalF ic md ms ld ys) (a b : Int32) {fa D : Nat} (ha : a.toInt = (fa : Int)) (hb : b.toInt = (fa : Int) + (D : Int)) (hfb : fa + D < 60000000) (hDm : D ≤ 2000000)  : CtV l G yX8_gatherOdds cX8_gatherOdds 3 3 75 n ad E [.ref (ad 0), .int a, .int b] (fun E' => ∃ iq2 lq2 : Nat → Int32, E' 45 = ob 4 (rfs ad [46, 47]) iq2 ∧ (iq2 2).toInt = (if D = 0 then 1 else 2) ∧ E' 47 = aI G 26002 lq2 ∧ (lq2 0).toInt = (fa : Int) ∧ (D ≠ 0 → (lq2 1).toInt = (fa : Int) + (D : Int)) ∧ ∀ j, j ≠ 45 → j ≠ 46 → j ≠ 47 → E' j = E j) := by
  refine CtV.of (by decide) (Nat.le_of_ble_eq_true rfl) (fun X A C => ?_)
  refine v_sub (lv' := [(0, .ref (ad 0)), (1, .int a), (2, .int b)]) [0, 1, 2] rfl ?_
  refine v_aload_n C 0 dX8_gatherOdds_0 rfl rfl ?_
  refine v_getr C 0 dX8_gatherOdds_1 fX8_19 (by omega) hE0 rfl rfl ?_
  refine v_aload_n C 0 dX8_gatherOdds_4 rfl rfl ?_
  refine v_geti (v := io 7) C 0 dX8_gatherOdds_5 fX8_56 (by omega) hE0 rfl rfl ?_
  refine v_cVv C dX8_gatherOdds_8 lX8_205 mX7_refresh 6 (by omega) hE6 (by decide) rfl (c_refresh0 l G n ad _ (by omega) hE6 hz (io 7)) ⟨by decide, by decide⟩ rfl (Nat.le_of_ble_eq_true rfl) ⟨Nat.zero_le _, Nat.zero_le _⟩ (fun E1 hq2 => ?_)
  subst hq2
  refine v_aload_n C 0 dX8_gatherOdds_11 rfl rfl ?_
  refine v_getr C 0 dX8_gatherOdds_12 fX8_33 (by omega) hE0 rfl rfl ?_
  refine v_iload_n C 1 dX8_gatherOdds_15 rfl rfl ?_
  refine v_iload_n C 2 dX8_gatherOdds_16 rfl rfl ?_
  refine v_aload_n C 0 dX8_gatherOdds_17 rfl rfl ?_
  refine v_getr C 0 dX8_gatherOdds_18 fX8_19 (by omega) hE0 rfl rfl ?_
  refine v_aload_n C 0 dX8_gatherOdds_21 rfl rfl ?_
  refine v_getr C 0 dX8_gatherOdds_22 fX8_12 (by omega) hE0 rfl rfl ?_
  refine v_cVp C dX8_gatherOdds_25 lX8_280 mX0_days 1 (by omega) hE1 (by decide) rfl (c_days l G n ad _ (by omega) hE1 hE2 hE3 hE4 hE5 hP hF) ⟨by decide, by decide⟩ rfl (Nat.le_of_ble_eq_true rfl) ⟨Nat.zero_le _, Nat.zero_le _⟩ (fun r3 hp4 => ?_)
  refine v_cVv C dX8_gatherOdds_28 lX8_284 mX4_gather 45 (by omega) hE45 (by decide) rfl (c_gather0 l G n ad _ (by omega) hE6 hz hE45 h5 hE46 hE47 a b r3 ha hb hfb hDm) ⟨by decide, by decide⟩ rfl (Nat.le_of_ble_eq_true rfl) ⟨Nat.zero_le _, Nat.zero_le _⟩ (fun E5 hq6 => ?_)
  exact v_vret C dX8_gatherOdds_31 rfl hq6

set_option maxRecDepth 20000 in
theorem e_odds (l : Launch) (G : Gl) (n : Nat) (ad : Nat → Nat) (E : Nat → va_E) (hN : 52 ≤ n) {io iz : Nat → Int32} (hE0 : E 0 = ob 8 (rfs ad [1, 6, 8, 48, 45, 51]) io) (hE6 : E 6 = ob 7 (rfs ad [7]) iz) (hz : (iz 1).toInt = 0) {iq lq : Nat → Int32} {mk : Nat → Int64} (hE45 : E 45 = ob 4 (rfs ad [46, 47]) iq) (h5 : (iq 5).toInt = 0) (hE46 : E 46 = aJ G 31251 mk) (hE47 : E 47 = aI G 26002 lq) {ic md ms ld ys : Nat → Int32} (hE1 : E 1 = ob 0 (rfs ad [2, 3, 4, 5]) ic) (hE2 : E 2 = aI G 12 md) (hE3 : E 3 = aI G 12 ms) (hE4 : E 4 = aI G 100 ld) (hE5 : E 5 = aI G 101 ys) (hP : CalP ic md) (hF : CalF ic md ms ld ys) (a : Int32) (b : Int32)  : CtI l G yX8_odds cX8_odds 3 .int 4 97 n ad E [.ref (ad 0), .int a, .int b] (fun r E' => (r.toInt = if okRng a.toInt b.toInt then (if a.toInt = b.toInt then 1 else 2) else -1) ∧ Fr8 E E') := by
  refine CtI.of (by decide) (Nat.le_of_ble_eq_true rfl) (fun X A C => ?_)
  refine v_sub (lv' := [(0, .ref (ad 0)), (1, .int a), (2, .int b)]) [0, 1, 2] rfl ?_
  refine v_iload_n C 1 dX8_odds_0 rfl rfl ?_
  refine v_iload_n C 2 dX8_odds_1 rfl rfl ?_
  refine v_cSp C dX8_odds_2 lX8_230 mX8_isRange (c_isRange l G n ad _  a b) ⟨by decide, by decide⟩ rfl (Nat.le_of_ble_eq_true rfl) ⟨Nat.zero_le _, Nat.zero_le _⟩ (fun r1 hp2 => ?_)
  unfold okRng at hp2
  rcases hp2 with ⟨rfl, hp2⟩ | ⟨rfl, hp2⟩
  · refine b_if_ne C 10 dX8_odds_5 (by decide) (show (1 : Int32).toInt = 1 by decide) (fun c3 => ?_) (fun c3 => absurd c3 (by decide))
    refine v_aload_n C 0 dX8_odds_10 rfl rfl ?_
    refine v_iload_n C 1 dX8_odds_11 rfl rfl ?_
    refine v_iload_n C 2 dX8_odds_12 rfl rfl ?_
    refine v_cVv C dX8_odds_13 lX8_233 mX8_gatherOdds 0 (by omega) hE0 (by decide) rfl (c_gatherOdds0 l G n ad _ hN hE0 hE6 hz hE45 h5 hE46 hE47 hE1 hE2 hE3 hE4 hE5 hP hF a b (fa := a.toInt.toNat) (D := (b.toInt - a.toInt).toNat) (by rw [(rfl : Int32.toInt a = _)]; omega) (by rw [(rfl : Int32.toInt b = _)]; omega) (by omega) (by omega)) ⟨by decide, by decide⟩ rfl (Nat.le_of_ble_eq_true rfl) ⟨Nat.zero_le _, Nat.zero_le _⟩ (fun E4 hq5 => ?_)
    obtain ⟨iq2, lq2, g45, gc, g47, g0, g1, gO⟩ := hq5
    have hE4_0 := (gO 0 (by decide) (by decide) (by decide)).trans hE0
    have hE4_6 := (gO 6 (by decide) (by decide) (by decide)).trans hE6
    have hE4_1 := (gO 1 (by decide) (by decide) (by decide)).trans hE1
    have hE4_2 := (gO 2 (by decide) (by decide) (by decide)).trans hE2
    have hE4_3 := (gO 3 (by decide) (by decide) (by decide)).trans hE3
    have hE4_4 := (gO 4 (by decide) (by decide) (by decide)).trans hE4
    have hE4_5 := (gO 5 (by decide) (by decide) (by decide)).trans hE5
    refine v_aload_n C 0 dX8_odds_16 rfl rfl ?_
    refine v_getr C 0 dX8_odds_17 fX8_33 (by omega) hE4_0 rfl rfl ?_
    refine v_geti (v := iq2 2) C 45 dX8_odds_20 fX8_237 (by omega) g45 rfl rfl ?_
    exact v_ret C dX8_odds_23 rfl rfl ⟨by have gl : (iq2 2).toInt = if a.toInt = b.toInt then 1 else 2 := by { rw [gc]; by_cases h : a.toInt = b.toInt; (rw [if_pos h, if_pos (show (b.toInt - a.toInt).toNat = 0 by omega)]); (rw [if_neg h, if_neg (show ¬ (b.toInt - a.toInt).toNat = 0 by omega)]) }; rw [if_pos (show okRng a.toInt b.toInt by unfold okRng; omega)]; exact gl, (fun j hj => (gO j (by omega) (by omega) (by omega)))⟩
  · refine b_if_ne C 10 dX8_odds_5 (by decide) (show (0 : Int32).toInt = 0 by decide) (fun c6 => absurd c6 (by decide)) (fun c6 => ?_)
    refine v_iconst (v := (-1)) C dX8_odds_8 (by decide) ?_
    exact v_ret C dX8_odds_9 rfl rfl ⟨by rw [show (-1 : Int32).toInt = -1 by decide, if_neg (by unfold okRng; omega)], (fun j hj => rfl)⟩

set_option maxRecDepth 20000 in
theorem e_odd (l : Launch) (G : Gl) (n : Nat) (ad : Nat → Nat) (E : Nat → va_E) (hN : 52 ≤ n) {io iz : Nat → Int32} (hE0 : E 0 = ob 8 (rfs ad [1, 6, 8, 48, 45, 51]) io) (hE6 : E 6 = ob 7 (rfs ad [7]) iz) (hz : (iz 1).toInt = 0) {iq lq : Nat → Int32} {mk : Nat → Int64} (hE45 : E 45 = ob 4 (rfs ad [46, 47]) iq) (h5 : (iq 5).toInt = 0) (hE46 : E 46 = aJ G 31251 mk) (hE47 : E 47 = aI G 26002 lq) {ic md ms ld ys : Nat → Int32} (hE1 : E 1 = ob 0 (rfs ad [2, 3, 4, 5]) ic) (hE2 : E 2 = aI G 12 md) (hE3 : E 3 = aI G 12 ms) (hE4 : E 4 = aI G 100 ld) (hE5 : E 5 = aI G 101 ys) (hP : CalP ic md) (hF : CalF ic md ms ld ys) (a : Int32) (b : Int32) (i : Int32)  : CtI l G yX8_odd cX8_odd 4 .int 4 97 n ad E [.ref (ad 0), .int a, .int b, .int i] (fun r E' => (r.toInt = if okRng a.toInt b.toInt ∧ i.toInt = 0 then a.toInt else if okRng a.toInt b.toInt ∧ i.toInt = 1 ∧ ¬ a.toInt = b.toInt then b.toInt else -1) ∧ Fr8 E E') := by
  refine CtI.of (by decide) (Nat.le_of_ble_eq_true rfl) (fun X A C => ?_)
  refine v_sub (lv' := [(0, .ref (ad 0)), (1, .int a), (2, .int b), (3, .int i)]) [0, 1, 2, 3] rfl ?_
  refine v_iload_n C 3 dX8_odd_0 rfl rfl ?_
  refine b_if_lt C 12 dX8_odd_1 (by decide) (rfl : Int32.toInt i = _) (fun c1 => ?_) (fun c1 => ?_)
  · refine v_iconst (v := (-1)) C dX8_odd_12 (by decide) ?_
    exact v_ret C dX8_odd_13 rfl rfl ⟨by rw [show (-1 : Int32).toInt = -1 by decide, if_neg (by unfold okRng; omega), if_neg (by unfold okRng; omega)], (fun j hj => rfl)⟩
  · refine v_iload_n C 1 dX8_odd_4 rfl rfl ?_
    refine v_iload_n C 2 dX8_odd_5 rfl rfl ?_
    refine v_cSp C dX8_odd_6 lX8_230 mX8_isRange (c_isRange l G n ad _  a b) ⟨by decide, by decide⟩ rfl (Nat.le_of_ble_eq_true rfl) ⟨Nat.zero_le _, Nat.zero_le _⟩ (fun r2 hp3 => ?_)
    unfold okRng at hp3
    rcases hp3 with ⟨rfl, hp3⟩ | ⟨rfl, hp3⟩
    · refine b_if_ne C 14 dX8_odd_9 (by decide) (show (1 : Int32).toInt = 1 by decide) (fun c4 => ?_) (fun c4 => absurd c4 (by decide))
      refine v_aload_n C 0 dX8_odd_14 rfl rfl ?_
      refine v_iload_n C 1 dX8_odd_15 rfl rfl ?_
      refine v_iload_n C 2 dX8_odd_16 rfl rfl ?_
      refine v_cVv C dX8_odd_17 lX8_233 mX8_gatherOdds 0 (by omega) hE0 (by decide) rfl (c_gatherOdds0 l G n ad _ hN hE0 hE6 hz hE45 h5 hE46 hE47 hE1 hE2 hE3 hE4 hE5 hP hF a b (fa := a.toInt.toNat) (D := (b.toInt - a.toInt).toNat) (by rw [(rfl : Int32.toInt a = _)]; omega) (by rw [(rfl : Int32.toInt b = _)]; omega) (by omega) (by omega)) ⟨by decide, by decide⟩ rfl (Nat.le_of_ble_eq_true rfl) ⟨Nat.zero_le _, Nat.zero_le _⟩ (fun E5 hq6 => ?_)
      obtain ⟨iq2, lq2, g45, gc, g47, g0, g1, gO⟩ := hq6
      have hE5_0 := (gO 0 (by decide) (by decide) (by decide)).trans hE0
      have hE5_6 := (gO 6 (by decide) (by decide) (by decide)).trans hE6
      have hE5_1 := (gO 1 (by decide) (by decide) (by decide)).trans hE1
      have hE5_2 := (gO 2 (by decide) (by decide) (by decide)).trans hE2
      have hE5_3 := (gO 3 (by decide) (by decide) (by decide)).trans hE3
      have hE5_4 := (gO 4 (by decide) (by decide) (by decide)).trans hE4
      have hE5_5 := (gO 5 (by decide) (by decide) (by decide)).trans hE5
      refine v_iload_n C 3 dX8_odd_20 rfl rfl ?_
      refine v_aload_n C 0 dX8_odd_21 rfl rfl ?_
      refine v_getr C 0 dX8_odd_22 fX8_33 (by omega) hE5_0 rfl rfl ?_
      refine v_geti (v := iq2 2) C 45 dX8_odd_25 fX8_237 (by omega) g45 rfl rfl ?_
      have gl : (iq2 2).toInt = if a.toInt = b.toInt then 1 else 2 := by { rw [gc]; by_cases h : a.toInt = b.toInt; (rw [if_pos h, if_pos (show (b.toInt - a.toInt).toNat = 0 by omega)]); (rw [if_neg h, if_neg (show ¬ (b.toInt - a.toInt).toNat = 0 by omega)]) }
      have glb : (iq2 2).toInt = 1 ∨ (iq2 2).toInt = 2 := by rw [gl]; split <;> simp
      refine b_icmp_ge C 43 dX8_odd_28 (by decide) (rfl : Int32.toInt i = _) (rfl : Int32.toInt (iq2 2) = _) (fun c7 => ?_) (fun c7 => ?_)
      · refine v_iconst (v := (-1)) C dX8_odd_43 (by decide) ?_
        refine v_ret C dX8_odd_44 rfl rfl ⟨?_, (fun j hj => (gO j (by omega) (by omega) (by omega)))⟩
        rw [show (-1 : Int32).toInt = -1 by decide]
        by_cases h : a.toInt = b.toInt
        · rw [if_pos h] at gl; rw [if_neg (by omega), if_neg (by omega)]
        · rw [if_neg h] at gl; rw [if_neg (by omega), if_neg (by omega)]
      · refine v_aload_n C 0 dX8_odd_31 rfl rfl ?_
        refine v_getr C 0 dX8_odd_32 fX8_33 (by omega) hE5_0 rfl rfl ?_
        refine v_getr C 45 dX8_odd_35 fX8_240 (by omega) g45 rfl rfl ?_
        refine v_iload_n C 3 dX8_odd_38 rfl rfl ?_
        refine v_ald (v := lq2 (i.toInt).toNat) C 47 dX8_odd_39 (by omega) g47 (ti_in (rfl : Int32.toInt i = _) (by omega) (by omega)) (by rw [ti_cl (rfl : Int32.toInt i = _)]) ?_
        refine v_goto C 44 dX8_odd_40 (by decide) ?_
        refine v_ret C dX8_odd_44 rfl rfl ⟨?_, (fun j hj => (gO j (by omega) (by omega) (by omega)))⟩
        rcases (show i.toInt = 0 ∨ i.toInt = 1 by omega) with q | q
        · rw [q, if_pos ⟨by unfold okRng; omega, rfl⟩]; show Int32.toInt (lq2 0) = _; rw [g0]; omega
        · have hne : ¬ a.toInt = b.toInt := fun h => by rw [if_pos h] at gl; omega
          rw [q, if_neg (by omega), if_pos ⟨by unfold okRng; omega, rfl, hne⟩]; show Int32.toInt (lq2 1) = _; rw [g1 (by omega)]; omega
    · refine b_if_ne C 14 dX8_odd_9 (by decide) (show (0 : Int32).toInt = 0 by decide) (fun c8 => absurd c8 (by decide)) (fun c8 => ?_)
      refine v_iconst (v := (-1)) C dX8_odd_12 (by decide) ?_
      exact v_ret C dX8_odd_13 rfl rfl ⟨by rw [show (-1 : Int32).toInt = -1 by decide, if_neg (by unfold okRng; omega), if_neg (by unfold okRng; omega)], (fun j hj => rfl)⟩

