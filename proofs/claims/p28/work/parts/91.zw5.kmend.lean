def SRs (G : Gl) (ad : Nat → Nat) (k N n0 : Nat) (sz : Int32) (fo fx fy i48 ls : Nat → Int32) (E E1 : Nat → va_E) (go gx gy : Nat → Int32) : Prop := ∃ i2 pv2 : Nat → Int32, E1 48 = ob 1 (rfs ad [1, 6, 49, 45]) i2 ∧ (∀ q, q ≠ 7 → i2 q = i48 q) ∧ (∃ q, q < n0 ∧ (ls q).toInt = (i2 7).toInt) ∧ E1 50 = aI G 8 pv2 ∧ EDs G ad k fo fx fy E1 N 0 ∧ PgX G ad 52 E1 sz go gx gy ∧ ∀ j, j ≠ 48 → j ≠ 50 → j ≠ 51 → (j < 52 ∨ 58 ≤ j) → (j < 64 ∨ 67 < j) → E1 j = E j
theorem SRs.cg {G : Gl} {ad : Nat → Nat} {k N n0 : Nat} {sz : Int32} {fo fx fy i48 ls go gx gy ho hx hy : Nat → Int32} {E E1 : Nat → va_E} (h : SRs G ad k N n0 sz fo fx fy i48 ls E E1 go gx gy) (hg : ∀ j, go j = ho j ∧ gx j = hx j ∧ gy j = hy j) : SRs G ad k N n0 sz fo fx fy i48 ls E E1 ho hx hy := by
  obtain ⟨i2, pv2, h1, h2, h3, h4, h5, h6, h7⟩ := h
  exact ⟨i2, pv2, h1, h2, h3, h4, h5, h6.congr (fun j _ => hg j), h7⟩
section SRCH
variable {G : Gl} {ad : Nat → Nat} {n k N n0 : Nat} {fo fx fy i48 ls go gx gy : Nat → Int32} {sz : Int32} {E E1 : Nat → va_E}
theorem s_put (l : Launch) (hn : 98 ≤ n) (hk5 : k ≤ 5) (hN10 : N ≤ 10) (hok : okLs k N fo fx fy) (hN : sz.toInt = (N : Int)) (hS : SRs G ad k N n0 sz fo fx fy i48 ls E E1 go gx gy) {l2 d : Nat} (hl : l2 < N) (hd : d < anN k (fo l2).toInt (fx l2).toInt) (e : Int32) (he : e.toInt = ((bsN k fo fx l2 + d : Nat) : Int)) : CtV l G yX3_put cX3_put 2 4 92 n ad E1 [.ref (ad 51), .int e] (fun E' => SRs G ad k N n0 sz fo fx fy i48 ls E E' (upd go l2 (Int32.ofInt (anO (fo l2).toInt))) (upd gx l2 (Int32.ofInt (anX (fo l2).toInt (fx l2).toInt d))) (upd gy l2 (Int32.ofInt (anY (fo l2).toInt (fy l2).toInt d)))) := by
  obtain ⟨i2, pv2, h1, h2, h3, h4, h5, h6, h7⟩ := hS
  refine (g_put l G n ad E1 hn hk5 hN10 hok h5 h6 hN hl hd e he).mono (fun E' hp => ?_)
  exact ⟨i2, pv2, (hp.2 48 (by omega)).trans h1, h2, h3, (hp.2 50 (by omega)).trans h4, h5.go (fun j hj => hp.2 j (by omega)), hp.1, fun j a b c d e => (hp.2 j d).trans (h7 j a b c d e)⟩
theorem s_undo (l : Launch) (hn : 98 ≤ n) (hk5 : k ≤ 5) (hN10 : N ≤ 10) (hok : okLs k N fo fx fy) (hN : sz.toInt = (N : Int)) (hS : SRs G ad k N n0 sz fo fx fy i48 ls E E1 go gx gy) (b : Nat) (hb : b + 6 ≤ 45) (hPg : PgX G ad b E sz fo fx fy) {l2 d : Nat} (hl : l2 < N) (hd : d < anN k (fo l2).toInt (fx l2).toInt) (e : Int32) (he : e.toInt = ((bsN k fo fx l2 + d : Nat) : Int)) : CtV l G yX3_undo cX3_undo 4 4 92 n ad E1 [.ref (ad 51), .ref (ad b), .int e] (fun E' => SRs G ad k N n0 sz fo fx fy i48 ls E E' (upd go l2 (fo l2)) (upd gx l2 (fx l2)) (upd gy l2 (fy l2))) := by
  obtain ⟨i2, pv2, h1, h2, h3, h4, h5, h6, h7⟩ := hS
  refine (g_undo l G n ad E1 hn hk5 hN10 hok h5 h6 hN b hb (hPg.keep (fun j q1 q2 => h7 j (by omega) (by omega) (by omega) (by omega) (by omega))) hl hd e he).mono (fun E' hp => ?_)
  exact ⟨i2, pv2, (hp.2 48 (by omega)).trans h1, h2, h3, (hp.2 50 (by omega)).trans h4, h5.go (fun j hj => hp.2 j (by omega)), hp.1, fun j a b c d e => (hp.2 j d).trans (h7 j a b c d e)⟩
theorem s_right (l : Launch) {ic md iq : Nat → Int32} {TT : Nat → TST} (hK : KSt G ad k ic md TT E) (hs1 : 0 ≤ sz.toInt) (hs2 : sz.toInt ≤ 10) (hN : sz.toInt = (N : Int)) {law v : Int} (hlw : okLW (k : Int) law v) (hl4 : (i48 4).toInt = law % 10) (hl5 : (i48 5).toInt = law / 10) (hl6 : (i48 6).toInt = v) (h45 : E 45 = ob 4 (rfs ad [46, 47]) iq) (hq2 : (iq 2).toInt = (n0 : Int)) (hn0 : n0 ≤ 26002) (h47 : E 47 = aI G 26002 ls) (hrg : ∀ q, q < n0 → 0 ≤ (ls q).toInt ∧ (ls q).toInt < 60000000) {Y A B : Int} (hen : isEn (isOd k TT Y A B) n0 (fun q => (ls q).toInt)) (hLg : okLs k N go gx gy) (hS : SRs G ad k N n0 sz fo fx fy i48 ls E E1 go gx gy) : CtI l G yX1_isRight cX1_isRight 4 .boolean 5 124 (98 + 9 * k) ad E1 [.ref (ad 48), .ref (ad 52)] (fun r E' => ((r = 1 ∧ RTp k ic md TT Y A B law v N go gx gy) ∨ (r = 0 ∧ ¬ RTp k ic md TT Y A B law v N go gx gy)) ∧ SRs G ad k N n0 sz fo fx fy i48 ls E E' go gx gy) := by
  obtain ⟨i2, pv2, h1, h2, h3, h4, h5, h6, h7⟩ := hS
  have hO : ∀ j, (j < 48 ∨ j = 49 ∨ 98 ≤ j) → E1 j = E j := fun j hj => h7 j (by omega) (by omega) (by omega) (by omega) (by omega)
  refine (g_isRight l G 0 ad E1 (hK.go (fun j hj => hO j (by omega))) h6 hs1 hs2 hN hLg h4 h1 hlw (by rw [h2 4 (by decide)]; exact hl4) (by rw [h2 5 (by decide)]; exact hl5) (by rw [h2 6 (by decide)]; exact hl6) ((hO 45 (by omega)).trans h45) hq2 hn0 ((hO 47 (by omega)).trans h47) hrg h3).mono (fun r E' hp => ?_)
  obtain ⟨hr, i3, a1, a2, a3, ⟨pv3, a4⟩, a5⟩ := hp
  refine ⟨?_, i3, pv3, a1, fun q hq => (a2 q hq).trans (h2 q hq), a3, a4, h5.go (fun j hj => a5 j (by omega) (by omega)), h6.keep (fun j x y => a5 j (by omega) (by omega)), fun j b1 b2 b3 b4 b5 => (a5 j b1 b2).trans (h7 j b1 b2 b3 b4 b5)⟩
  rcases hr with ⟨e, z⟩ | ⟨e, z⟩
  · exact Or.inl ⟨e, (RT_list hen).mpr z⟩
  · exact Or.inr ⟨e, fun q => z ((RT_list hen).mp q)⟩
end SRCH

set_option maxRecDepth 20000 in
theorem g_keepTrial (l : Launch) (G : Gl) (n : Nat) (ad : Nat → Nat) (E : Nat → va_E) (hn : 98 ≤ n) {i51 : Nat → Int32} (h51 : E 51 = ob 3 (rfs ad [6, 48, 52, 58, 64, 65, 66, 67]) i51) {sz sb : Int32} {go gx gy : Nat → Int32} (hPt : PgX G ad 52 E sz go gx gy) (hs1 : 0 ≤ sz.toInt) (hs2 : sz.toInt ≤ 10) (hWf : PgW G ad 58 E sb) (x : Int32) : CtI l G yX3_keepTrial cX3_keepTrial 2 .int 4 90 (n) ad E [.ref (ad 51), .int x] (fun r E' => r = x) := by
  refine CtI.of (by decide) (Nat.le_of_ble_eq_true rfl) (fun X A C => ?_)
  refine v_sub (lv' := [(0, .ref (ad 51)), (1, .int x)]) [0, 1] rfl ?_
  obtain ⟨ip, po, px, py, tp, kd, hEb, -⟩ := id hWf
  refine v_aload_n C 0 dX3_keepTrial_0 rfl rfl ?_
  refine v_getr C 51 dX3_keepTrial_1 fX3_18 (by omega) h51 rfl rfl ?_
  refine v_aload_n C 0 dX3_keepTrial_4 rfl rfl ?_
  refine v_getr C 51 dX3_keepTrial_5 fX3_12 (by omega) h51 rfl rfl ?_
  refine v_cVv C dX3_keepTrial_8 lX3_57 mX5_copyFrom 58 (by omega) hEb (by decide) rfl (f_copyFrom l G n ad _ 58 52 (by omega) (by omega) (by omega) hWf hPt hs1 hs2) ⟨by decide, by decide⟩ rfl (Nat.le_of_ble_eq_true rfl) ⟨Nat.zero_le _, Nat.zero_le _⟩ (fun E1 hq2 => ?_)
  refine v_iload_n C 1 dX3_keepTrial_11 rfl rfl ?_
  exact v_ret C dX3_keepTrial_12 rfl rfl rfl

set_option maxRecDepth 20000 in
theorem g_search (l : Launch) (G : Gl) (n : Nat) (ad : Nat → Nat) (E : Nat → va_E) {k : Nat} {ic md : Nat → Int32} {TT : Nat → TST} (hK : KSt G ad k ic md TT E) (b : Nat) (hb : b + 6 ≤ 45) {sz sb sf : Int32} {fo fx fy : Nat → Int32} (hPg : PgX G ad b E sz fo fx fy) (hs1 : 0 ≤ sz.toInt) (hs2 : sz.toInt ≤ 10) {N : Nat} (hN : sz.toInt = (N : Int)) (hok : okLs k N fo fx fy) {pv : Nat → Int32} (h50 : E 50 = aI G 8 pv) {i51 el eo ex ey : Nat → Int32} (h51 : E 51 = ob 3 (rfs ad [6, 48, 52, 58, 64, 65, 66, 67]) i51) (h64 : E 64 = aI G 50 el) (h65 : E 65 = aI G 50 eo) (h66 : E 66 = aI G 50 ex) (h67 : E 67 = aI G 50 ey) (hWt : PgW G ad 52 E sb) (hWf : PgW G ad 58 E sf) (hf1 : 0 ≤ sf.toInt) (hf2 : sf.toInt ≤ 10) {i48 : Nat → Int32} (h48 : E 48 = ob 1 (rfs ad [1, 6, 49, 45]) i48) {law v : Int} (hlw : okLW (k : Int) law v) (hl4 : (i48 4).toInt = law % 10) (hl5 : (i48 5).toInt = law / 10) (hl6 : (i48 6).toInt = v) {iq ls : Nat → Int32} (h45 : E 45 = ob 4 (rfs ad [46, 47]) iq) {n0 : Nat} (hq2 : (iq 2).toInt = (n0 : Int)) (hn0 : n0 ≤ 26002) (h47 : E 47 = aI G 26002 ls) (hrg : ∀ q, q < n0 → 0 ≤ (ls q).toInt ∧ (ls q).toInt < 60000000) {Y La Lb : Int} (hen : isEn (isOd k TT Y La Lb) n0 (fun q => (ls q).toInt)) (hA : (iq 3).toInt = La) (hAB : La ≤ Lb) : CtI l G yX3_search cX3_search 4 .int 6 147 (98 + 9 * k) ad E [.ref (ad 51), .ref (ad b)] (fun r E' => MDr (RTp k ic md TT Y La Lb law v N fo fx fy) (MD1 k (RTp k ic md TT Y La Lb law v N) N fo fx fy) (MD2 k (RTp k ic md TT Y La Lb law v N) N fo fx fy) (-1) r.toInt) := by
  refine CtI.of (by decide) (Nat.le_of_ble_eq_true rfl) (fun X A C => ?_)
  refine v_sub (lv' := [(0, .ref (ad 51)), (1, .ref (ad b))]) [0, 1] rfl ?_
  obtain ⟨⟨i49, h49⟩, hC, ⟨iz, fz, h6, hzk, h7, hfz⟩, hZY, hk5⟩ := id hK
  obtain ⟨ms, ld, ys, hC1, hC2, hC3, hC4, hC5, hP, hF⟩ := id hC
  have hcy := cal_y hP
  have hN10 : N ≤ 10 := by omega
  have hb50 := bs_50 (fo := fo) (fx := fx) hk5 N
  obtain ⟨ipt, _, _, _, _, _, hEt, _⟩ := id hWt
  refine v_aload_n C 0 dX3_search_0 rfl rfl ?_
  refine v_getr C 51 dX3_search_1 fX3_38 (by omega) h51 rfl rfl ?_
  refine v_aload_n C 0 dX3_search_4 rfl rfl ?_
  refine v_getr C 51 dX3_search_5 fX3_38 (by omega) h51 rfl rfl ?_
  refine v_getr C 48 dX3_search_8 fX3_42 (by omega) h48 rfl rfl ?_
  refine v_geti (v := iq 3) C 45 dX3_search_11 fX3_48 (by omega) h45 rfl rfl ?_
  refine v_puti C 48 dX3_search_14 fX3_54 (by omega) h48 rfl rfl rfl rfl (fun E1 hE1_48 oE1 => ?_)
  have hE1_51 := (oE1 51 (by decide)).trans h51
  have hE1_45 := (oE1 45 (by decide)).trans h45
  have hE1_6 := (oE1 6 (by decide)).trans h6
  have hE1_64 := (oE1 64 (by decide)).trans h64
  have hE1_65 := (oE1 65 (by decide)).trans h65
  have hE1_66 := (oE1 66 (by decide)).trans h66
  have hE1_67 := (oE1 67 (by decide)).trans h67
  have hE1_50 := (oE1 50 (by decide)).trans h50
  have hE1_52 := (oE1 52 (by decide)).trans hEt
  refine v_aload_n C 0 dX3_search_17 rfl rfl ?_
  refine v_getr C 51 dX3_search_18 fX3_12 (by omega) hE1_51 rfl rfl ?_
  refine v_aload_n C 1 dX3_search_21 rfl rfl ?_
  have hPg0 := hPg.keep (fun j q1 q2 => oE1 j (by omega))
  have hWt0 : PgW G ad 52 E1 sb := hWt.keep (fun j q1 q2 => oE1 j (by omega))
  refine v_cVv C dX3_search_22 lX3_57 mX5_copyFrom 52 (by omega) hE1_52 (by decide) rfl (f_copyFrom l G _ ad _ 52 b (by omega) (by omega) (by omega) hWt0 hPg0 hs1 hs2) ⟨by decide, by decide⟩ rfl (Nat.le_of_ble_eq_true rfl) ⟨Nat.zero_le _, Nat.zero_le _⟩ (fun E2 hq3 => ?_)
  obtain ⟨hPt, hFt⟩ := hq3
  have rE2_51 := (hFt 51 (by omega)).trans hE1_51
  have rE2_48 := (hFt 48 (by omega)).trans hE1_48
  have rE2_45 := (hFt 45 (by omega)).trans hE1_45
  have rE2_6 := (hFt 6 (by omega)).trans hE1_6
  have rE2_64 := (hFt 64 (by omega)).trans hE1_64
  have rE2_65 := (hFt 65 (by omega)).trans hE1_65
  have rE2_66 := (hFt 66 (by omega)).trans hE1_66
  have rE2_67 := (hFt 67 (by omega)).trans hE1_67
  have rE2_50 := (hFt 50 (by omega)).trans hE1_50
  refine v_aload_n C 0 dX3_search_25 rfl rfl ?_
  refine v_aload_n C 1 dX3_search_26 rfl rfl ?_
  have hPg1 := hPg0.keep (fun j q1 q2 => hFt j (by omega))
  refine v_cVv C dX3_search_27 lX3_61 mX3_listEdits 51 (by omega) rE2_51 (by decide) rfl (g_listEdits l G _ ad _ (by omega) b hb hPg1 hN hN10 hk5 hok rE2_51 rE2_64 rE2_65 rE2_66 rE2_67 rE2_6 hzk) ⟨by decide, by decide⟩ rfl (Nat.le_of_ble_eq_true rfl) ⟨Nat.zero_le _, Nat.zero_le _⟩ (fun E4 hq5 => ?_)
  obtain ⟨hED, hFe⟩ := hq5
  obtain ⟨qA, hqA, hqB⟩ := hen.2.2 La ⟨⟨Int.le_refl La, hAB⟩, Or.inl rfl⟩
  have hS0 : SRs G ad k N n0 sz fo fx fy i48 ls E E4 fo fx fy := ⟨_, pv, (hFe 48 (by decide) (by omega)).trans rE2_48, (fun q hq => if_neg hq), ⟨qA, hqA, (show (ls qA).toInt = (iq 3).toInt by rw [hA]; exact hqB)⟩, (hFe 50 (by decide) (by omega)).trans rE2_50, hED, hPt.keep (fun j q1 q2 => hFe j (by omega) (by omega)), fun j g1 g2 g3 g4 g5 => (hFe j g3 g5).trans ((hFt j g4).trans (oE1 j g1))⟩
  obtain ⟨i26, pv6, x486, -, -, x506, xED6, xP6, xO6⟩ := id hS0
  obtain ⟨i56, el6, eo6, ex6, ey6, x516, xM6, x646, x656, x666, x676, xE6⟩ := id xED6
  refine v_aload_n C 0 dX3_search_30 rfl rfl ?_
  refine v_getr C 51 dX3_search_31 fX3_38 (by omega) x516 rfl rfl ?_
  refine v_aload_n C 0 dX3_search_34 rfl rfl ?_
  refine v_getr C 51 dX3_search_35 fX3_12 (by omega) x516 rfl rfl ?_
  refine v_cVi C dX3_search_38 lX3_64 mX1_isRight 48 (by omega) x486 (by decide) rfl (s_right l hK hs1 hs2 hN hlw hl4 hl5 hl6 h45 hq2 hn0 h47 hrg hen hok hS0) ⟨by decide, by decide⟩ rfl (Nat.le_of_ble_eq_true rfl) ⟨Nat.zero_le _, Nat.zero_le _⟩ (fun r7 E8 hq9 => ?_)
  obtain ⟨hri10, hSr10⟩ := hq9
  rcases hri10 with ⟨rfl, hri10⟩ | ⟨rfl, hri10⟩
  · obtain ⟨i211, pv11, x4811, -, -, x5011, xED11, xP11, xO11⟩ := id hSr10
    obtain ⟨i511, el11, eo11, ex11, ey11, x5111, xM11, x6411, x6511, x6611, x6711, xE11⟩ := id xED11
    refine b_if_eq C 50 dX3_search_41 (by decide) (show (1 : Int32).toInt = 1 by decide) (fun c12 => absurd c12 (by decide)) (fun c12 => ?_)
    refine v_aload_n C 0 dX3_search_44 rfl rfl ?_
    refine v_iconst (v := 0) C dX3_search_45 (by decide) ?_
    have hWf9 := hWf.keep (fun j q1 q2 => xO11 j (by omega) (by omega) (by omega) (by omega) (by omega))
    refine v_cVi C dX3_search_46 lX3_68 mX3_keepTrial 51 (by omega) x5111 (by decide) rfl (g_keepTrial l G _ ad _ (by omega) x5111 xP11 hs1 hs2 hWf9 0) ⟨by decide, by decide⟩ rfl (Nat.le_of_ble_eq_true rfl) ⟨Nat.zero_le _, Nat.zero_le _⟩ (fun r13 E14 hq15 => ?_)
    subst hq15
    exact v_ret C dX3_search_49 rfl rfl (Or.inl ⟨hri10, by decide⟩)
  · obtain ⟨i216, pv16, x4816, -, -, x5016, xED16, xP16, xO16⟩ := id hSr10
    obtain ⟨i516, el16, eo16, ex16, ey16, x5116, xM16, x6416, x6516, x6616, x6716, xE16⟩ := id xED16
    refine b_if_eq C 50 dX3_search_41 (by decide) (show (0 : Int32).toInt = 0 by decide) (fun c17 => ?_) (fun c17 => absurd c17 (by decide))
    refine v_iconst (v := 0) C dX3_search_50 (by decide) ?_
    refine v_istore_n (lv' := [(0, .ref (ad 51)), (1, .ref (ad b)), (2, .int 0)]) C [1, 2, 0] dX3_search_51 rfl (by decide) rfl ?_
    have LP18 : ∀ (t : Nat) (e1 : Nat) (y19 : Int32) (E20 : Nat → va_E), (y19.toInt = (e1 : Int)) → (SRs G ad k N n0 sz fo fx fy i48 ls E E20 fo fx fy) → (e1 ≤ bsN k fo fx N) → (∀ l c, l < N → c < anN k (fo l).toInt (fx l).toInt → bsN k fo fx l + c < e1 → ¬ RTp k ic md TT Y La Lb law v N (edO fo l) (edX fo fx l c) (edY fo fy l c)) → (bsN k fo fx N : Int) - (e1 : Int) < (t : Int) → V X G A 4 (QI X G A (98 + 9 * k) ad (fun r E' => MDr (RTp k ic md TT Y La Lb law v N fo fx fy) (MD1 k (RTp k ic md TT Y La Lb law v N) N fo fx fy) (MD2 k (RTp k ic md TT Y La Lb law v N) N fo fx fy) (-1) r.toInt)) (98 + 9 * k) ad 0 0 E20 52 [(0, .ref (ad 51)), (1, .ref (ad b)), (2, .int y19)] [] := by
      intro t23
      induction t23 with
      | zero => intro e1 y19 E20 hy19 hI21 hq22 hall1 hm25; exfalso; omega
      | succ t23 ih24 =>
        intro e1 y19 E20 hy19 hI21 hq22 hall1 hm25
        obtain ⟨i226, pv26, x4826, -, -, x5026, xED26, xP26, xO26⟩ := id hI21
        obtain ⟨i526, el26, eo26, ex26, ey26, x5126, xM26, x6426, x6526, x6626, x6726, xE26⟩ := id xED26
        refine v_iload_n C 2 dX3_search_52 rfl rfl ?_
        refine v_aload_n C 0 dX3_search_53 rfl rfl ?_
        refine v_geti (v := i526 8) C 51 dX3_search_54 fX3_72 (by omega) x5126 rfl rfl ?_
        refine b_icmp_ge C 97 dX3_search_57 (by decide) hy19 xM26 (fun c27 => ?_) (fun c27 => ?_)
        · have hM1 : ¬ MD1 k (RTp k ic md TT Y La Lb law v N) N fo fx fy := fun q => by obtain ⟨l9, c9, g1, g2, g3⟩ := q; exact hall1 l9 c9 g1 g2 (by have := bs_in g2 g1; omega) g3
          refine v_iconst (v := 0) C dX3_search_97 (by decide) ?_
          refine v_istore_n (lv' := [(0, .ref (ad 51)), (1, .ref (ad b)), (2, .int 0)]) C [1, 2, 0] dX3_search_98 rfl (by decide) rfl ?_
          have LP28 : ∀ (t : Nat) (f0 : Nat) (y29 : Int32) (E30 : Nat → va_E), (y29.toInt = (f0 : Int)) → (SRs G ad k N n0 sz fo fx fy i48 ls E E30 fo fx fy) → (f0 ≤ bsN k fo fx N) → (∀ l c m d, l < m → m < N → c < anN k (fo l).toInt (fx l).toInt → d < anN k (fo m).toInt (fx m).toInt → bsN k fo fx l + c < f0 → ¬ RTp k ic md TT Y La Lb law v N (edO (edO fo l) m) (edX (edO fo l) (edX fo fx l c) m d) (edY (edO fo l) (edY fo fy l c) m d)) → (bsN k fo fx N : Int) - (f0 : Int) < (t : Int) → V X G A 4 (QI X G A (98 + 9 * k) ad (fun r E' => MDr (RTp k ic md TT Y La Lb law v N fo fx fy) (MD1 k (RTp k ic md TT Y La Lb law v N) N fo fx fy) (MD2 k (RTp k ic md TT Y La Lb law v N) N fo fx fy) (-1) r.toInt)) (98 + 9 * k) ad 0 0 E30 99 [(0, .ref (ad 51)), (1, .ref (ad b)), (2, .int y29)] [] := by
            intro t33
            induction t33 with
            | zero => intro f0 y29 E30 hy29 hI31 hq32 hall2 hm35; exfalso; omega
            | succ t33 ih34 =>
              intro f0 y29 E30 hy29 hI31 hq32 hall2 hm35
              obtain ⟨i236, pv36, x4836, -, -, x5036, xED36, xP36, xO36⟩ := id hI31
              obtain ⟨i536, el36, eo36, ex36, ey36, x5136, xM36, x6436, x6536, x6636, x6736, xE36⟩ := id xED36
              refine v_iload_n C 2 dX3_search_99 rfl rfl ?_
              refine v_aload_n C 0 dX3_search_100 rfl rfl ?_
              refine v_geti (v := i536 8) C 51 dX3_search_101 fX3_72 (by omega) x5136 rfl rfl ?_
              refine b_icmp_ge C 191 dX3_search_104 (by decide) hy29 xM36 (fun c37 => ?_) (fun c37 => ?_)
              · refine v_aload_n C 0 dX3_search_191 rfl rfl ?_
                have hWf8 := hWf.keep (fun j q1 q2 => xO36 j (by omega) (by omega) (by omega) (by omega) (by omega))
                obtain ⟨ipf, _, _, _, _, _, hEf, _⟩ := id hWf8
                refine v_getr C 51 dX3_search_192 fX3_18 (by omega) x5136 rfl rfl ?_
                have hWf9 := hWf.keep (fun j q1 q2 => xO36 j (by omega) (by omega) (by omega) (by omega) (by omega))
                refine v_cVv C dX3_search_195 lX3_83 mX5_empty 58 (by omega) hEf (by decide) rfl (c_empty l G _ ad _ 58 (by omega) hWf9 hf1 hf2) ⟨by decide, by decide⟩ rfl (Nat.le_of_ble_eq_true rfl) ⟨Nat.zero_le _, Nat.zero_le _⟩ (fun E38 hq39 => ?_)
                refine v_iconst (v := (-1)) C dX3_search_198 (by decide) ?_
                exact v_ret C dX3_search_199 rfl rfl (Or.inr (Or.inr (Or.inr ⟨hri10, hM1, (fun q => by obtain ⟨l9, c9, m9, d9, g1, g2, g3, g4, g5⟩ := q; exact hall2 l9 c9 m9 d9 g1 g2 g3 g4 (by have := bs_in g3 (show l9 < N by omega); omega) g5), by decide⟩)))
              · obtain ⟨l2, d2, hl, hd, hee⟩ := bs_sur (k := k) (fo := fo) (fx := fx) N f0 (by omega)
                refine v_aload_n C 0 dX3_search_107 rfl rfl ?_
                refine v_iload_n C 2 dX3_search_108 rfl rfl ?_
                refine v_cVv C dX3_search_109 lX3_75 mX3_put 51 (by omega) x5136 (by decide) rfl (s_put l (by omega) hk5 hN10 hok hN hI31 hl hd y29 (by have := hy29; omega)) ⟨by decide, by decide⟩ rfl (Nat.le_of_ble_eq_true rfl) ⟨Nat.zero_le _, Nat.zero_le _⟩ (fun E40 hq41 => ?_)
                have hSpE40 : SRs G ad k N n0 sz fo fx fy i48 ls E E40 (edO fo l2) (edX fo fx l2 d2) (edY fo fy l2 d2) := hq41
                obtain ⟨i242, pv42, x4842, -, -, x5042, xED42, xP42, xO42⟩ := id hSpE40
                obtain ⟨i542, el42, eo42, ex42, ey42, x5142, xM42, x6442, x6542, x6642, x6742, xE42⟩ := id xED42
                refine v_iload_n C 2 dX3_search_112 rfl rfl ?_
                refine v_iconst (v := 1) C dX3_search_113 (by decide) ?_
                refine v_iadd C dX3_search_114 ?_
                refine v_top (fun x43 ex43 => ?_)
                have hx43 : x43.toInt = ((f0 : Int) + 1) := by rw [ex43]; exact ti_add hy29 (show (1 : Int32).toInt = 1 by decide) (by omega) (by omega)
                refine v_istore_n (lv' := [(0, .ref (ad 51)), (1, .ref (ad b)), (2, .int y29), (3, .int x43)]) C [1, 2, 3, 0] dX3_search_115 rfl (by decide) rfl ?_
                have LP44 : ∀ (t : Nat) (f1 : Nat) (y45 : Int32) (E46 : Nat → va_E), (y45.toInt = (f1 : Int)) → (SRs G ad k N n0 sz fo fx fy i48 ls E E46 (edO fo l2) (edX fo fx l2 d2) (edY fo fy l2 d2)) → (f0 < f1) → (f1 ≤ bsN k fo fx N) → (∀ m d, l2 < m → m < N → d < anN k (fo m).toInt (fx m).toInt → bsN k fo fx m + d < f1 → ¬ RTp k ic md TT Y La Lb law v N (edO (edO fo l2) m) (edX (edO fo l2) (edX fo fx l2 d2) m d) (edY (edO fo l2) (edY fo fy l2 d2) m d)) → (bsN k fo fx N : Int) - (f1 : Int) < (t : Int) → V X G A 4 (QI X G A (98 + 9 * k) ad (fun r E' => MDr (RTp k ic md TT Y La Lb law v N fo fx fy) (MD1 k (RTp k ic md TT Y La Lb law v N) N fo fx fy) (MD2 k (RTp k ic md TT Y La Lb law v N) N fo fx fy) (-1) r.toInt)) (98 + 9 * k) ad 0 0 E46 116 [(0, .ref (ad 51)), (1, .ref (ad b)), (2, .int y29), (3, .int y45)] [] := by
                  intro t50
                  induction t50 with
                  | zero => intro f1 y45 E46 hy45 hI47 hq48 hq49 hall3 hm52; exfalso; omega
                  | succ t50 ih51 =>
                    intro f1 y45 E46 hy45 hI47 hq48 hq49 hall3 hm52
                    obtain ⟨i253, pv53, x4853, -, -, x5053, xED53, xP53, xO53⟩ := id hI47
                    obtain ⟨i553, el53, eo53, ex53, ey53, x5153, xM53, x6453, x6553, x6653, x6753, xE53⟩ := id xED53
                    refine v_iload_n C 3 dX3_search_116 rfl rfl ?_
                    refine v_aload_n C 0 dX3_search_117 rfl rfl ?_
                    refine v_geti (v := i553 8) C 51 dX3_search_118 fX3_72 (by omega) x5153 rfl rfl ?_
                    refine b_icmp_ge C 179 dX3_search_121 (by decide) hy45 xM53 (fun c54 => ?_) (fun c54 => ?_)
                    · refine v_aload_n C 0 dX3_search_179 rfl rfl ?_
                      refine v_aload_n C 1 dX3_search_180 rfl rfl ?_
                      refine v_iload_n C 2 dX3_search_181 rfl rfl ?_
                      refine v_cVv C dX3_search_182 lX3_79 mX3_undo 51 (by omega) x5153 (by decide) rfl (s_undo l (by omega) hk5 hN10 hok hN hI47 b hb hPg hl hd y29 (by have := hy29; omega)) ⟨by decide, by decide⟩ rfl (Nat.le_of_ble_eq_true rfl) ⟨Nat.zero_le _, Nat.zero_le _⟩ (fun E55 hq56 => ?_)
                      have hSuE55 : SRs G ad k N n0 sz fo fx fy i48 ls E E55 fo fx fy := hq56.cg (fun j => ed_back j)
                      obtain ⟨i257, pv57, x4857, -, -, x5057, xED57, xP57, xO57⟩ := id hSuE55
                      obtain ⟨i557, el57, eo57, ex57, ey57, x5157, xM57, x6457, x6557, x6657, x6757, xE57⟩ := id xED57
                      obtain ⟨x58, ex58⟩ : ∃ y : Int32, y = y29 + 1 := ⟨_, rfl⟩
                      have hx58 : x58.toInt = ((f0 : Int) + 1) := by rw [ex58]; exact ti_add hy29 (show (1 : Int32).toInt = 1 by decide) (by omega) (by omega)
                      refine v_iinc (v := x58) (lv' := [(0, .ref (ad 51)), (1, .ref (ad b)), (2, .int x58), (3, .int y45)]) C 2 [1, 2, 0, 3] dX3_search_185 rfl (ex58.symm) (by decide) rfl ?_
                      refine v_goto C 99 dX3_search_188 (by decide) ?_
                      refine v_sub (lv' := [(0, .ref (ad 51)), (1, .ref (ad b)), (2, .int x58)]) [0, 1, 2] rfl ?_
                      exact ih34 (f0 + 1) x58 E55 (show Int32.toInt x58 = ((f0 + 1 : Nat) : Int) by have := hx58; omega) (hSuE55) (by omega) (fun l c m d g1 g2 g3 g4 g5 => by by_cases q : bsN k fo fx l + c < f0; (exact hall2 l c m d g1 g2 g3 g4 q); (obtain ⟨rfl, rfl⟩ := bs_inj g3 hd (by omega); exact hall3 m d g1 g2 g4 (by have := bs_in g4 g2; omega))) (by omega)
                    · obtain ⟨m2, e2, hm2, he2, hff⟩ := bs_sur (k := k) (fo := fo) (fx := fx) N f1 (by omega)
                      have hef : (el53 f1).toInt = (m2 : Int) := by rw [hff]; exact (xE53 m2 e2 (Or.inl ⟨hm2, he2⟩)).1
                      have hee9 : (el53 f0).toInt = (l2 : Int) := by rw [hee]; exact (xE53 l2 d2 (Or.inl ⟨hl, hd⟩)).1
                      have hor : l2 ≤ m2 := bs_ord (c := d2) he2 (by omega)
                      refine v_aload_n C 0 dX3_search_124 rfl rfl ?_
                      refine v_getr C 51 dX3_search_125 fX3_21 (by omega) x5153 rfl rfl ?_
                      refine v_iload_n C 3 dX3_search_128 rfl rfl ?_
                      refine v_ald (v := el53 f1) C 64 dX3_search_129 (by omega) x6453 (ti_in hy45 (by omega) (by omega)) (by rw [ti_cl hy45, show Int.toNat (f1 : Int) = f1 by omega]) ?_
                      refine v_aload_n C 0 dX3_search_130 rfl rfl ?_
                      refine v_getr C 51 dX3_search_131 fX3_21 (by omega) x5153 rfl rfl ?_
                      refine v_iload_n C 2 dX3_search_134 rfl rfl ?_
                      refine v_ald (v := el53 f0) C 64 dX3_search_135 (by omega) x6453 (ti_in hy29 (by omega) (by omega)) (by rw [ti_cl hy29, show Int.toNat (f0 : Int) = f0 by omega]) ?_
                      refine b_icmp_ne C 142 dX3_search_136 (by decide) hef hee9 (fun c59 => ?_) (fun c59 => ?_)
                      · have hne : m2 ≠ l2 := by omega
                        refine v_aload_n C 0 dX3_search_142 rfl rfl ?_
                        refine v_iload_n C 3 dX3_search_143 rfl rfl ?_
                        refine v_cVv C dX3_search_144 lX3_75 mX3_put 51 (by omega) x5153 (by decide) rfl (s_put l (by omega) hk5 hN10 hok hN hI47 hm2 he2 y45 (by have := hy45; omega)) ⟨by decide, by decide⟩ rfl (Nat.le_of_ble_eq_true rfl) ⟨Nat.zero_le _, Nat.zero_le _⟩ (fun E60 hq61 => ?_)
                        obtain ⟨q91, q92, q93⟩ := ed_2 (fo := fo) (fx := fx) (fy := fy) (l := l2) (c := d2) (m := m2) (d := e2) hne
                        have hSpE60 : SRs G ad k N n0 sz fo fx fy i48 ls E E60 (edO (edO fo l2) m2) (edX (edO fo l2) (edX fo fx l2 d2) m2 e2) (edY (edO fo l2) (edY fo fy l2 d2) m2 e2) := by rw [q91, q92, q93]; exact hq61
                        obtain ⟨i262, pv62, x4862, -, -, x5062, xED62, xP62, xO62⟩ := id hSpE60
                        obtain ⟨i562, el62, eo62, ex62, ey62, x5162, xM62, x6462, x6562, x6662, x6762, xE62⟩ := id xED62
                        refine v_aload_n C 0 dX3_search_147 rfl rfl ?_
                        refine v_getr C 51 dX3_search_148 fX3_38 (by omega) x5162 rfl rfl ?_
                        refine v_aload_n C 0 dX3_search_151 rfl rfl ?_
                        refine v_getr C 51 dX3_search_152 fX3_12 (by omega) x5162 rfl rfl ?_
                        refine v_cVi C dX3_search_155 lX3_64 mX1_isRight 48 (by omega) x4862 (by decide) rfl (s_right l hK hs1 hs2 hN hlw hl4 hl5 hl6 h45 hq2 hn0 h47 hrg hen (ed_ok hk5 (ed_ok hk5 hok hl hd) hm2 (by rw [show edO fo l2 m2 = fo m2 from upd_ne hne, show edX fo fx l2 d2 m2 = fx m2 from upd_ne hne]; exact he2)) hSpE60) ⟨by decide, by decide⟩ rfl (Nat.le_of_ble_eq_true rfl) ⟨Nat.zero_le _, Nat.zero_le _⟩ (fun r63 E64 hq65 => ?_)
                        obtain ⟨hri66, hSr66⟩ := hq65
                        rcases hri66 with ⟨rfl, hri66⟩ | ⟨rfl, hri66⟩
                        · obtain ⟨i267, pv67, x4867, -, -, x5067, xED67, xP67, xO67⟩ := id hSr66
                          obtain ⟨i567, el67, eo67, ex67, ey67, x5167, xM67, x6467, x6567, x6667, x6767, xE67⟩ := id xED67
                          refine b_if_eq C 167 dX3_search_158 (by decide) (show (1 : Int32).toInt = 1 by decide) (fun c68 => absurd c68 (by decide)) (fun c68 => ?_)
                          refine v_aload_n C 0 dX3_search_161 rfl rfl ?_
                          refine v_iconst (v := 2) C dX3_search_162 (by decide) ?_
                          have hWf9 := hWf.keep (fun j q1 q2 => xO67 j (by omega) (by omega) (by omega) (by omega) (by omega))
                          refine v_cVi C dX3_search_163 lX3_68 mX3_keepTrial 51 (by omega) x5167 (by decide) rfl (g_keepTrial l G _ ad _ (by omega) x5167 xP67 hs1 hs2 hWf9 2) ⟨by decide, by decide⟩ rfl (Nat.le_of_ble_eq_true rfl) ⟨Nat.zero_le _, Nat.zero_le _⟩ (fun r69 E70 hq71 => ?_)
                          subst hq71
                          exact v_ret C dX3_search_166 rfl rfl (Or.inr (Or.inr (Or.inl ⟨hri10, hM1, ⟨l2, d2, m2, e2, by omega, hm2, hd, he2, hri66⟩, by decide⟩)))
                        · obtain ⟨i272, pv72, x4872, -, -, x5072, xED72, xP72, xO72⟩ := id hSr66
                          obtain ⟨i572, el72, eo72, ex72, ey72, x5172, xM72, x6472, x6572, x6672, x6772, xE72⟩ := id xED72
                          refine b_if_eq C 167 dX3_search_158 (by decide) (show (0 : Int32).toInt = 0 by decide) (fun c73 => ?_) (fun c73 => absurd c73 (by decide))
                          refine v_aload_n C 0 dX3_search_167 rfl rfl ?_
                          refine v_aload_n C 1 dX3_search_168 rfl rfl ?_
                          refine v_iload_n C 3 dX3_search_169 rfl rfl ?_
                          refine v_cVv C dX3_search_170 lX3_79 mX3_undo 51 (by omega) x5172 (by decide) rfl (s_undo l (by omega) hk5 hN10 hok hN hSr66 b hb hPg hm2 he2 y45 (by have := hy45; omega)) ⟨by decide, by decide⟩ rfl (Nat.le_of_ble_eq_true rfl) ⟨Nat.zero_le _, Nat.zero_le _⟩ (fun E74 hq75 => ?_)
                          have hSuE74 : SRs G ad k N n0 sz fo fx fy i48 ls E E74 (edO fo l2) (edX fo fx l2 d2) (edY fo fy l2 d2) := by rw [q91, q92, q93] at hq75; exact hq75.cg (fun j => ed_back2 hne j)
                          obtain ⟨i276, pv76, x4876, -, -, x5076, xED76, xP76, xO76⟩ := id hSuE74
                          obtain ⟨i576, el76, eo76, ex76, ey76, x5176, xM76, x6476, x6576, x6676, x6776, xE76⟩ := id xED76
                          obtain ⟨x77, ex77⟩ : ∃ y : Int32, y = y45 + 1 := ⟨_, rfl⟩
                          have hx77 : x77.toInt = ((f1 : Int) + 1) := by rw [ex77]; exact ti_add hy45 (show (1 : Int32).toInt = 1 by decide) (by omega) (by omega)
                          refine v_iinc (v := x77) (lv' := [(0, .ref (ad 51)), (1, .ref (ad b)), (2, .int y29), (3, .int x77)]) C 3 [1, 2, 3, 0] dX3_search_173 rfl (ex77.symm) (by decide) rfl ?_
                          refine v_goto C 116 dX3_search_176 (by decide) ?_
                          exact ih51 (f1 + 1) x77 E74 (show Int32.toInt x77 = ((f1 + 1 : Nat) : Int) by have := hx77; omega) (hSuE74) (by omega) (by omega) (fun m d g1 g2 g3 g4 => by by_cases q : bsN k fo fx m + d < f1; (exact hall3 m d g1 g2 g3 q); (obtain ⟨rfl, rfl⟩ := bs_inj g3 he2 (by omega); exact hri66)) (by omega)
                      · refine v_goto C 173 dX3_search_139 (by decide) ?_
                        obtain ⟨x78, ex78⟩ : ∃ y : Int32, y = y45 + 1 := ⟨_, rfl⟩
                        have hx78 : x78.toInt = ((f1 : Int) + 1) := by rw [ex78]; exact ti_add hy45 (show (1 : Int32).toInt = 1 by decide) (by omega) (by omega)
                        refine v_iinc (v := x78) (lv' := [(0, .ref (ad 51)), (1, .ref (ad b)), (2, .int y29), (3, .int x78)]) C 3 [1, 2, 3, 0] dX3_search_173 rfl (ex78.symm) (by decide) rfl ?_
                        refine v_goto C 116 dX3_search_176 (by decide) ?_
                        exact ih51 (f1 + 1) x78 E46 (show Int32.toInt x78 = ((f1 + 1 : Nat) : Int) by have := hx78; omega) (hI47) (by omega) (by omega) (fun m d g1 g2 g3 g4 => by by_cases q : bsN k fo fx m + d < f1; (exact hall3 m d g1 g2 g3 q); (obtain ⟨q1, q2⟩ := bs_inj g3 he2 (by omega); omega)) (by omega)
                exact LP44 100000 (f0 + 1) x43 E40 (show Int32.toInt x43 = ((f0 + 1 : Nat) : Int) by have := hx43; omega) (hSpE40) (by omega) (by omega) (fun m d g1 g2 g3 g4 => absurd (bs_lt (d := d) hd g1) (by omega)) (by omega)
          exact LP28 100000 0 0 E20 (show Int32.toInt 0 = ((0 : Nat) : Int) by have := (show (0 : Int32).toInt = 0 by decide); omega) (hI21) (by omega) (fun l c m d _ _ _ _ h => absurd h (by omega)) (by omega)
        · obtain ⟨l2, d2, hl, hd, hee⟩ := bs_sur (k := k) (fo := fo) (fx := fx) N e1 (by omega)
          refine v_aload_n C 0 dX3_search_60 rfl rfl ?_
          refine v_iload_n C 2 dX3_search_61 rfl rfl ?_
          refine v_cVv C dX3_search_62 lX3_75 mX3_put 51 (by omega) x5126 (by decide) rfl (s_put l (by omega) hk5 hN10 hok hN hI21 hl hd y19 (by have := hy19; omega)) ⟨by decide, by decide⟩ rfl (Nat.le_of_ble_eq_true rfl) ⟨Nat.zero_le _, Nat.zero_le _⟩ (fun E79 hq80 => ?_)
          have hSpE79 : SRs G ad k N n0 sz fo fx fy i48 ls E E79 (edO fo l2) (edX fo fx l2 d2) (edY fo fy l2 d2) := hq80
          obtain ⟨i281, pv81, x4881, -, -, x5081, xED81, xP81, xO81⟩ := id hSpE79
          obtain ⟨i581, el81, eo81, ex81, ey81, x5181, xM81, x6481, x6581, x6681, x6781, xE81⟩ := id xED81
          refine v_aload_n C 0 dX3_search_65 rfl rfl ?_
          refine v_getr C 51 dX3_search_66 fX3_38 (by omega) x5181 rfl rfl ?_
          refine v_aload_n C 0 dX3_search_69 rfl rfl ?_
          refine v_getr C 51 dX3_search_70 fX3_12 (by omega) x5181 rfl rfl ?_
          refine v_cVi C dX3_search_73 lX3_64 mX1_isRight 48 (by omega) x4881 (by decide) rfl (s_right l hK hs1 hs2 hN hlw hl4 hl5 hl6 h45 hq2 hn0 h47 hrg hen (ed_ok hk5 hok hl hd) hSpE79) ⟨by decide, by decide⟩ rfl (Nat.le_of_ble_eq_true rfl) ⟨Nat.zero_le _, Nat.zero_le _⟩ (fun r82 E83 hq84 => ?_)
          obtain ⟨hri85, hSr85⟩ := hq84
          rcases hri85 with ⟨rfl, hri85⟩ | ⟨rfl, hri85⟩
          · obtain ⟨i286, pv86, x4886, -, -, x5086, xED86, xP86, xO86⟩ := id hSr85
            obtain ⟨i586, el86, eo86, ex86, ey86, x5186, xM86, x6486, x6586, x6686, x6786, xE86⟩ := id xED86
            refine b_if_eq C 85 dX3_search_76 (by decide) (show (1 : Int32).toInt = 1 by decide) (fun c87 => absurd c87 (by decide)) (fun c87 => ?_)
            refine v_aload_n C 0 dX3_search_79 rfl rfl ?_
            refine v_iconst (v := 1) C dX3_search_80 (by decide) ?_
            have hWf9 := hWf.keep (fun j q1 q2 => xO86 j (by omega) (by omega) (by omega) (by omega) (by omega))
            refine v_cVi C dX3_search_81 lX3_68 mX3_keepTrial 51 (by omega) x5186 (by decide) rfl (g_keepTrial l G _ ad _ (by omega) x5186 xP86 hs1 hs2 hWf9 1) ⟨by decide, by decide⟩ rfl (Nat.le_of_ble_eq_true rfl) ⟨Nat.zero_le _, Nat.zero_le _⟩ (fun r88 E89 hq90 => ?_)
            subst hq90
            exact v_ret C dX3_search_84 rfl rfl (Or.inr (Or.inl ⟨hri10, ⟨l2, d2, hl, hd, hri85⟩, by decide⟩))
          · obtain ⟨i291, pv91, x4891, -, -, x5091, xED91, xP91, xO91⟩ := id hSr85
            obtain ⟨i591, el91, eo91, ex91, ey91, x5191, xM91, x6491, x6591, x6691, x6791, xE91⟩ := id xED91
            refine b_if_eq C 85 dX3_search_76 (by decide) (show (0 : Int32).toInt = 0 by decide) (fun c92 => ?_) (fun c92 => absurd c92 (by decide))
            refine v_aload_n C 0 dX3_search_85 rfl rfl ?_
            refine v_aload_n C 1 dX3_search_86 rfl rfl ?_
            refine v_iload_n C 2 dX3_search_87 rfl rfl ?_
            refine v_cVv C dX3_search_88 lX3_79 mX3_undo 51 (by omega) x5191 (by decide) rfl (s_undo l (by omega) hk5 hN10 hok hN hSr85 b hb hPg hl hd y19 (by have := hy19; omega)) ⟨by decide, by decide⟩ rfl (Nat.le_of_ble_eq_true rfl) ⟨Nat.zero_le _, Nat.zero_le _⟩ (fun E93 hq94 => ?_)
            have hSuE93 : SRs G ad k N n0 sz fo fx fy i48 ls E E93 fo fx fy := hq94.cg (fun j => ed_back j)
            obtain ⟨i295, pv95, x4895, -, -, x5095, xED95, xP95, xO95⟩ := id hSuE93
            obtain ⟨i595, el95, eo95, ex95, ey95, x5195, xM95, x6495, x6595, x6695, x6795, xE95⟩ := id xED95
            obtain ⟨x96, ex96⟩ : ∃ y : Int32, y = y19 + 1 := ⟨_, rfl⟩
            have hx96 : x96.toInt = ((e1 : Int) + 1) := by rw [ex96]; exact ti_add hy19 (show (1 : Int32).toInt = 1 by decide) (by omega) (by omega)
            refine v_iinc (v := x96) (lv' := [(0, .ref (ad 51)), (1, .ref (ad b)), (2, .int x96)]) C 2 [1, 2, 0] dX3_search_91 rfl (ex96.symm) (by decide) rfl ?_
            refine v_goto C 52 dX3_search_94 (by decide) ?_
            exact ih24 (e1 + 1) x96 E93 (show Int32.toInt x96 = ((e1 + 1 : Nat) : Int) by have := hx96; omega) (hSuE93) (by omega) (fun l c g1 g2 g3 => by by_cases q : bsN k fo fx l + c < e1; (exact hall1 l c g1 g2 q); (obtain ⟨rfl, rfl⟩ := bs_inj g2 hd (by omega); exact hri85)) (by omega)
    exact LP18 100000 0 0 E8 (show Int32.toInt 0 = ((0 : Nat) : Int) by have := (show (0 : Int32).toInt = 0 by decide); omega) (hSr10) (by omega) (fun l c _ _ h => absurd h (by omega)) (by omega)

set_option maxRecDepth 20000 in
theorem k_mend (l : Launch) (G : Gl) (n : Nat) (ad : Nat → Nat) (E : Nat → va_E) {k : Nat} {ic md fl gop gx gy rf rto ron rat rbe rtd rm fv : Nat → Int32} {kn : Int32} (hKc : KCl G ad k ic md kn fl gop gx gy rf rto ron rat rbe rtd rm fv E) (hV : ∀ z, z < k → RZv ic rf rto ron rat rbe rtd rm fv z) (hLN : LOK k fl gop gx gy) (hOd : OdC G ad k ic md (TTz ic md rf rto ron rat rbe rtd rm fv kn.toInt) E) {E0 : Nat → va_E} (hJ : J8 G ad k E0 E) (p : Int32) (x : Int32) (v : Int32) (a : Int32) (c : Int32) : CtI l G yX8_mend cX8_mend 8 .int 7 170 (98 + 9 * k) ad E [.ref (ad 0), .int p, .int x, .int v, .int a, .int c] (fun r E' => MNq k ic md (TTz ic md rf rto ron rat rbe rtd rm fv kn.toInt) (YSf md (ic 4).toInt (ic 5).toInt 100) fl gop gx gy p.toInt x.toInt v.toInt a.toInt c.toInt r.toInt) := by
  refine CtI.of (by decide) (Nat.le_of_ble_eq_true rfl) (fun X A C => ?_)
  refine v_sub (lv' := [(0, .ref (ad 0)), (1, .int p), (2, .int x), (3, .int v), (4, .int a), (5, .int c)]) [0, 1, 2, 3, 4, 5] rfl ?_
  obtain ⟨⟨io, h0, hio⟩, hC, ⟨iz, fz, h6, hzk, h7, hfz⟩, ⟨fp, h8, hfp⟩, hPg, hbl, ⟨i48, h48⟩, ⟨i49, h49⟩, ⟨pv, h50⟩, hZ, hk5⟩ := id hKc
  have hP : CalP ic md := by obtain ⟨ms, ld, ys, -, -, -, -, -, hP, -⟩ := hC; exact hP
  obtain ⟨iq, ls, mk, h45, h46, h47, hq2, h5b, hOI⟩ := id hOd
  obtain ⟨sb, hWt, -⟩ := hJ.pg pc52
  obtain ⟨sf, hWf, hf1, hf2⟩ := hJ.pg pc58
  obtain ⟨i51, h51, -⟩ := hJ.2.2.getO (b := 51) (by omega) rfl
  obtain ⟨el, h64, -⟩ := hJ.2.2.getA (b := 64) (by omega) rfl
  obtain ⟨eo, h65, -⟩ := hJ.2.2.getA (b := 65) (by omega) rfl
  obtain ⟨ex, h66, -⟩ := hJ.2.2.getA (b := 66) (by omega) rfl
  obtain ⟨ey, h67, -⟩ := hJ.2.2.getA (b := 67) (by omega) rfl
  refine v_aload_n C 0 dX8_mend_0 rfl rfl ?_
  refine v_iload_n C 1 dX8_mend_1 rfl rfl ?_
  refine v_cVr C dX8_mend_2 lX8_177 mX8_programAt 0 (by omega) h0 (by decide) rfl (g_programAt l G _ ad _ (by omega) h0 h8 hfp p) ⟨by decide, by decide⟩ rfl (Nat.le_of_ble_eq_true rfl) ⟨Nat.zero_le _, Nat.zero_le _⟩ (fun r1 hp2 => ?_)
  rcases hp2 with ⟨hno, rfl⟩ | ⟨i, hi, hpi, rfl⟩
  · refine v_astoreN (lv' := [(0, .ref (ad 0)), (1, .int p), (2, .int x), (3, .int v), (4, .int a), (5, .int c), (6, .null)]) C [1, 2, 3, 4, 5, 6, 0] dX8_mend_5 (by decide) rfl ?_
    refine v_aloadN C 6 dX8_mend_7 rfl ?_
    refine v_ifnullN C 33 dX8_mend_9 (by decide) ?_
    refine v_iconst (v := (-1)) C dX8_mend_33 (by decide) ?_
    exact v_ret C dX8_mend_34 rfl rfl (Or.inl ⟨(fun q => by obtain ⟨q1, q2, q3⟩ := q; first | exact absurd q2 hlw | exact absurd q3 hrw | omega), by decide⟩)
  · have hit : p.toInt.toNat = i := by omega
    have hbi := hbl i
    obtain ⟨N, hN⟩ : ∃ N : Nat, (fl i).toInt = (N : Int) := ⟨(fl i).toInt.toNat, by omega⟩
    have hNt : (fl i).toInt.toNat = N := by omega
    obtain ⟨ip, po, px, py, tp, kd, hEb, hsz, -, -, -, -, -, -, -, -, hro, hft⟩ := id (hPg i hi)
    rw [hNt] at hro hft
    have hmis : (ip 7).toInt = MIS (fP gop i) N := hft.1
    refine v_astore (lv' := [(0, .ref (ad 0)), (1, .int p), (2, .int x), (3, .int v), (4, .int a), (5, .int c), (6, .ref (ad (9 + 6 * i)))]) C [1, 2, 3, 4, 5, 6, 0] dX8_mend_5 (by decide) rfl ?_
    refine v_aload C 6 dX8_mend_7 rfl ?_
    refine v_ifnull C dX8_mend_9 ?_
    refine v_aload_n C 0 dX8_mend_12 rfl rfl ?_
    refine v_iload_n C 2 dX8_mend_13 rfl rfl ?_
    refine v_iload_n C 3 dX8_mend_14 rfl rfl ?_
    refine v_cVp C dX8_mend_15 lX8_219 mX8_isLaw 0 (by omega) h0 (by decide) rfl (g_isLaw l G _ ad _ (by omega) h0 h6 hzk x v) ⟨by decide, by decide⟩ rfl (Nat.le_of_ble_eq_true rfl) ⟨Nat.zero_le _, Nat.zero_le _⟩ (fun r3 hp4 => ?_)
    rcases hp4 with ⟨rfl, hlw⟩ | ⟨rfl, hlw⟩
    · refine b_if_eq C 33 dX8_mend_18 (by decide) (show (1 : Int32).toInt = 1 by decide) (fun c5 => absurd c5 (by decide)) (fun c5 => ?_)
      refine v_iload C 4 dX8_mend_21 rfl ?_
      refine v_iload C 5 dX8_mend_23 rfl ?_
      refine v_ldc C dX8_mend_25 kX8_251 ?_
      refine v_cSp C dX8_mend_27 lX8_244 mX8_isReach (g_isReach l G _ ad _ a c 100000 (by decide)) ⟨by decide, by decide⟩ rfl (Nat.le_of_ble_eq_true rfl) ⟨Nat.zero_le _, Nat.zero_le _⟩ (fun r6 hp7 => ?_)
      rw [show (100000 : Int32).toInt = 100000 by decide] at hp7
      rcases hp7 with ⟨rfl, hrw⟩ | ⟨rfl, hrw⟩
      · have hrx := hrw
        unfold okRow at hrx
        refine b_if_ne C 35 dX8_mend_30 (by decide) (show (1 : Int32).toInt = 1 by decide) (fun c8 => ?_) (fun c8 => absurd c8 (by decide))
        refine v_aload_n C 0 dX8_mend_35 rfl rfl ?_
        refine v_iload C 4 dX8_mend_36 rfl ?_
        refine v_iload C 4 dX8_mend_38 rfl ?_
        refine v_iload C 5 dX8_mend_40 rfl ?_
        refine v_iadd C dX8_mend_42 ?_
        refine v_top (fun x9 ex9 => ?_)
        have hx9 : x9.toInt = (a.toInt + c.toInt) := by rw [ex9]; exact ti_add (rfl : Int32.toInt a = _) (rfl : Int32.toInt c = _) (by omega) (by omega)
        have hxe := hx9
        have hab : okOD a.toInt x9.toInt := by unfold okOD; omega
        refine v_cVv C dX8_mend_43 lX8_233 mX8_gatherOdds 0 (by omega) h0 (by decide) rfl (k_gatherOdds l G 0 ad _ hKc hV hOd a x9 hab) ⟨by decide, by decide⟩ rfl (Nat.le_of_ble_eq_true rfl) ⟨Nat.zero_le _, Nat.zero_le _⟩ (fun E10 hq11 => ?_)
        obtain ⟨hgo, hKg, hZg, hOg⟩ := hq11
        obtain ⟨iq2, ls2, n0, q45, q47, ⟨mk2, q46⟩, q5, q3, q4, q2, qn, qe⟩ := id hgo
        have hrg : ∀ q, q < n0 → 0 ≤ (ls2 q).toInt ∧ (ls2 q).toInt < 60000000 := fun q hq => by have g : a.toInt ≤ (ls2 q).toInt ∧ (ls2 q).toInt ≤ x9.toInt := (qe.2.1 q hq).1; have h9 := hab; unfold okOD at h9; omega
        rw [hxe] at qe
        have rE10_0 := (hOg 0 (by omega) (by omega) (by omega) (by omega)).trans h0
        have rE10_6 := (hOg 6 (by omega) (by omega) (by omega) (by omega)).trans h6
        have rE10_7 := (hOg 7 (by omega) (by omega) (by omega) (by omega)).trans h7
        have rE10_8 := (hOg 8 (by omega) (by omega) (by omega) (by omega)).trans h8
        have rE10_48 := (hOg 48 (by omega) (by omega) (by omega) (by omega)).trans h48
        have rE10_49 := (hOg 49 (by omega) (by omega) (by omega) (by omega)).trans h49
        have rE10_51 := (hOg 51 (by omega) (by omega) (by omega) (by omega)).trans h51
        have rE10_64 := (hOg 64 (by omega) (by omega) (by omega) (by omega)).trans h64
        have rE10_65 := (hOg 65 (by omega) (by omega) (by omega) (by omega)).trans h65
        have rE10_66 := (hOg 66 (by omega) (by omega) (by omega) (by omega)).trans h66
        have rE10_67 := (hOg 67 (by omega) (by omega) (by omega) (by omega)).trans h67
        have rE10_96i := (hOg (9 + 6 * i) (by omega) (by omega) (by omega) (by omega)).trans hEb
        have h50a := (hOg 50 (by decide) (by decide) (by decide) (by decide)).trans h50
        have hPg1 := (hPg i hi).keep (fun j _ g => hOg j (by omega) (by omega) (by omega) (by omega))
        have hWt1 := hWt.keep (fun j q1 q2 => hOg j (by omega) (by omega) (by omega) (by omega))
        have hWf1 := hWf.keep (fun j q1 q2 => hOg j (by omega) (by omega) (by omega) (by omega))
        have hLi : okLs k N (fP gop i) (fP gx i) (fP gy i) := fun j hj => hLN i hi j (by omega)
        refine v_aload_n C 0 dX8_mend_46 rfl rfl ?_
        refine v_getr C 0 dX8_mend_47 fX8_42 (by omega) rE10_0 rfl rfl ?_
        have hlx := hlw.1
        refine v_iload_n C 2 dX8_mend_50 rfl rfl ?_
        refine v_bipush (v := 10) C dX8_mend_51 (by decide) ?_
        refine v_irem C dX8_mend_53 (by decide) ?_
        refine v_top (fun x12 ex12 => ?_)
        have hx12 : x12.toInt = (x.toInt % 10) := by rw [ex12]; exact ti_rem (rfl : Int32.toInt x = _) (show (10 : Int32).toInt = 10 by decide) (by omega) (by omega)
        refine v_iload_n C 2 dX8_mend_54 rfl rfl ?_
        refine v_bipush (v := 10) C dX8_mend_55 (by decide) ?_
        refine v_idiv C dX8_mend_57 (by decide) ?_
        refine v_top (fun x13 ex13 => ?_)
        have hx13 : x13.toInt = (x.toInt / 10) := by rw [ex13]; exact ti_div (rfl : Int32.toInt x = _) (show (10 : Int32).toInt = 10 by decide) (by omega) (by omega)
        refine v_iload_n C 3 dX8_mend_58 rfl rfl ?_
        refine v_cVv C dX8_mend_59 lX8_223 mX1_hear 48 (by omega) rE10_48 (by decide) rfl (g_hear l G _ ad _ (by omega) rE10_48 x12 x13 v) ⟨by decide, by decide⟩ rfl (Nat.le_of_ble_eq_true rfl) ⟨Nat.zero_le _, Nat.zero_le _⟩ (fun E14 hq15 => ?_)
        obtain ⟨j48, h48b, hj4, hj5, hj6, hO3⟩ := hq15
        have rE14_0 := (hO3 0 (by omega)).trans rE10_0
        have rE14_6 := (hO3 6 (by omega)).trans rE10_6
        have rE14_7 := (hO3 7 (by omega)).trans rE10_7
        have rE14_8 := (hO3 8 (by omega)).trans rE10_8
        have rE14_49 := (hO3 49 (by omega)).trans rE10_49
        have rE14_51 := (hO3 51 (by omega)).trans rE10_51
        have rE14_64 := (hO3 64 (by omega)).trans rE10_64
        have rE14_65 := (hO3 65 (by omega)).trans rE10_65
        have rE14_66 := (hO3 66 (by omega)).trans rE10_66
        have rE14_67 := (hO3 67 (by omega)).trans rE10_67
        have rE14_96i := (hO3 (9 + 6 * i) (by omega)).trans rE10_96i
        have rE14_45 := (hO3 45 (by omega)).trans q45
        have rE14_47 := (hO3 47 (by omega)).trans q47
        have hKb := hKg.go (fun j hj => hO3 j (by omega))
        have h50c := (hO3 50 (by decide)).trans h50a
        have hPg2 := hPg1.keep (fun j _ g => hO3 j (by omega))
        have hl4 : (j48 4).toInt = x.toInt % 10 := by rw [hj4]; exact hx12
        have hl5 : (j48 5).toInt = x.toInt / 10 := by rw [hj5]; exact hx13
        have hl6 : (j48 6).toInt = v.toInt := by rw [hj6]
        have hWt2 := hWt1.keep (fun j q1 q2 => hO3 j (by omega))
        have hWf2 := hWf1.keep (fun j q1 q2 => hO3 j (by omega))
        refine v_aload_n C 0 dX8_mend_62 rfl rfl ?_
        refine v_getr C 0 dX8_mend_63 fX8_51 (by omega) rE14_0 rfl rfl ?_
        refine v_aload C 6 dX8_mend_66 rfl ?_
        refine v_cVi C dX8_mend_68 lX8_252 mX3_search 51 (by omega) rE14_51 (by decide) rfl (g_search l G 0 ad _ hKb (9 + 6 * i) (by omega) hPg2 hbi.1 hbi.2 hN hLi h50c rE14_51 rE14_64 rE14_65 rE14_66 rE14_67 hWt2 hWf2 hf1 hf2 h48b hlw hl4 hl5 hl6 rE14_45 q2 qn rE14_47 hrg qe (show (iq2 3).toInt = a.toInt by rw [q3]) (by omega)) ⟨by decide, by decide⟩ rfl (Nat.le_of_ble_eq_true rfl) ⟨Nat.zero_le _, Nat.zero_le _⟩ (fun r16 E17 hq18 => ?_)
        rcases hq18 with ⟨g1, hrv⟩ | ⟨g1, g2, hrv⟩ | ⟨g1, g2, g3, hrv⟩ | ⟨g1, g2, g3, hrv⟩
        · obtain rfl : r16 = 0 := ti_ext (hrv.trans (by decide))
          refine v_istore (lv' := [(0, .ref (ad 0)), (1, .int p), (2, .int x), (3, .int v), (4, .int a), (5, .int c), (6, .ref (ad (9 + 6 * i))), (7, .int 0)]) C [1, 2, 3, 4, 5, 6, 7, 0] dX8_mend_71 (by decide) rfl ?_
          refine v_iload C 7 dX8_mend_73 rfl ?_
          refine v_iconst (v := (-1)) C dX8_mend_75 (by decide) ?_
          refine b_icmp_ne C 84 dX8_mend_76 (by decide) (show (0 : Int32).toInt = 0 by decide) (show ((-1) : Int32).toInt = (-1) by decide) (fun c19 => ?_) (fun c19 => by exfalso; omega)
          refine v_iload C 7 dX8_mend_84 rfl ?_
          exact v_ret C dX8_mend_86 rfl rfl (Or.inr ⟨⟨by omega, hlw, hrw⟩, (by rw [hit, hNt]; exact Or.inl ⟨g1, by decide⟩)⟩)
        · obtain rfl : r16 = 1 := ti_ext (hrv.trans (by decide))
          refine v_istore (lv' := [(0, .ref (ad 0)), (1, .int p), (2, .int x), (3, .int v), (4, .int a), (5, .int c), (6, .ref (ad (9 + 6 * i))), (7, .int 1)]) C [1, 2, 3, 4, 5, 6, 7, 0] dX8_mend_71 (by decide) rfl ?_
          refine v_iload C 7 dX8_mend_73 rfl ?_
          refine v_iconst (v := (-1)) C dX8_mend_75 (by decide) ?_
          refine b_icmp_ne C 84 dX8_mend_76 (by decide) (show (1 : Int32).toInt = 1 by decide) (show ((-1) : Int32).toInt = (-1) by decide) (fun c20 => ?_) (fun c20 => by exfalso; omega)
          refine v_iload C 7 dX8_mend_84 rfl ?_
          exact v_ret C dX8_mend_86 rfl rfl (Or.inr ⟨⟨by omega, hlw, hrw⟩, (by rw [hit, hNt]; exact Or.inr (Or.inl ⟨g1, g2, by decide⟩))⟩)
        · obtain rfl : r16 = 2 := ti_ext (hrv.trans (by decide))
          refine v_istore (lv' := [(0, .ref (ad 0)), (1, .int p), (2, .int x), (3, .int v), (4, .int a), (5, .int c), (6, .ref (ad (9 + 6 * i))), (7, .int 2)]) C [1, 2, 3, 4, 5, 6, 7, 0] dX8_mend_71 (by decide) rfl ?_
          refine v_iload C 7 dX8_mend_73 rfl ?_
          refine v_iconst (v := (-1)) C dX8_mend_75 (by decide) ?_
          refine b_icmp_ne C 84 dX8_mend_76 (by decide) (show (2 : Int32).toInt = 2 by decide) (show ((-1) : Int32).toInt = (-1) by decide) (fun c21 => ?_) (fun c21 => by exfalso; omega)
          refine v_iload C 7 dX8_mend_84 rfl ?_
          exact v_ret C dX8_mend_86 rfl rfl (Or.inr ⟨⟨by omega, hlw, hrw⟩, (by rw [hit, hNt]; exact Or.inr (Or.inr (Or.inl ⟨g1, g2, g3, by decide⟩)))⟩)
        · obtain rfl : r16 = (-1) := ti_ext (hrv.trans (by decide))
          refine v_istore (lv' := [(0, .ref (ad 0)), (1, .int p), (2, .int x), (3, .int v), (4, .int a), (5, .int c), (6, .ref (ad (9 + 6 * i))), (7, .int (-1))]) C [1, 2, 3, 4, 5, 6, 7, 0] dX8_mend_71 (by decide) rfl ?_
          refine v_iload C 7 dX8_mend_73 rfl ?_
          refine v_iconst (v := (-1)) C dX8_mend_75 (by decide) ?_
          refine b_icmp_ne C 84 dX8_mend_76 (by decide) (show ((-1) : Int32).toInt = (-1) by decide) (show ((-1) : Int32).toInt = (-1) by decide) (fun c22 => by exfalso; omega) (fun c22 => ?_)
          refine v_bipush (v := (-6)) C dX8_mend_79 (by decide) ?_
          refine v_goto C 86 dX8_mend_81 (by decide) ?_
          exact v_ret C dX8_mend_86 rfl rfl (Or.inr ⟨⟨by omega, hlw, hrw⟩, (by rw [hit, hNt]; exact Or.inr (Or.inr (Or.inr ⟨g1, g2, g3, by decide⟩)))⟩)
      · refine b_if_ne C 35 dX8_mend_30 (by decide) (show (0 : Int32).toInt = 0 by decide) (fun c23 => absurd c23 (by decide)) (fun c23 => ?_)
        refine v_iconst (v := (-1)) C dX8_mend_33 (by decide) ?_
        exact v_ret C dX8_mend_34 rfl rfl (Or.inl ⟨(fun q => by obtain ⟨q1, q2, q3⟩ := q; first | exact absurd q2 hlw | exact absurd q3 hrw | omega), by decide⟩)
    · refine b_if_eq C 33 dX8_mend_18 (by decide) (show (0 : Int32).toInt = 0 by decide) (fun c24 => ?_) (fun c24 => absurd c24 (by decide))
      refine v_iconst (v := (-1)) C dX8_mend_33 (by decide) ?_
      exact v_ret C dX8_mend_34 rfl rfl (Or.inl ⟨(fun q => by obtain ⟨q1, q2, q3⟩ := q; first | exact absurd q2 hlw | exact absurd q3 hrw | omega), by decide⟩)

