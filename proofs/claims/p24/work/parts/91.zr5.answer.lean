set_option maxRecDepth 20000 in
theorem g_answerOf (l : Launch) (G : Gl) (n : Nat) (ad : Nat → Nat) (E : Nat → va_E) {k : Nat} {ic md : Nat → Int32} {TT : Nat → TST} (hK : KSt G ad k ic md TT E) (b : Nat) (hb : b + 6 ≤ 45) {sz : Int32} {fo fx fy : Nat → Int32} (hPg : PgX G ad b E sz fo fx fy) (hs1 : 0 ≤ sz.toInt) (hs2 : sz.toInt ≤ 10) {N : Nat} (hN : sz.toInt = (N : Int)) {Kw : Nat → Int32} (hwh : RSf fo N = some (1, Kw)) (hLn : ∀ j, j < N → okLn (k : Int) (fo j).toInt (fx j).toInt (fy j).toInt) {pv : Nat → Int32} (h50 : E 50 = aI G 8 pv) (m : Int32) (hm : 0 ≤ m.toInt ∧ m.toInt < 60000000) : CtI l G yX2_answerOf cX2_answerOf 8 .int 4 97 (98 + 9 * k) ad E [.ref (ad 49), .ref (ad b), .int m] (fun r E' => (r.toInt = RUv ic md TT fo fx fy N m.toInt) ∧ (∃ pv2 : Nat → Int32, E' 50 = aI G 8 pv2) ∧ ∀ j, j ≠ 50 → E' j = E j) := by
  refine CtI.of (by decide) (Nat.le_of_ble_eq_true rfl) (fun X A C => ?_)
  refine v_sub (lv' := [(0, .ref (ad 49)), (1, .ref (ad b)), (2, .int m)]) [0, 1, 2] rfl ?_
  obtain ⟨⟨i49, h49⟩, hC, ⟨iz, fz, h6, hzk, h7, hfz⟩, hZY, hk5⟩ := id hK
  obtain ⟨ms, ld, ys, hC1, hC2, hC3, hC4, hC5, hP, hF⟩ := id hC
  have hcy := cal_y hP
  obtain ⟨ip, po, px, py, tp, kd, hEb, hsz, -, -, hb1, hb2, hb3, hb4, -, hre, hro, hft⟩ := id hPg
  have hNt : sz.toInt.toNat = N := by omega
  rw [hNt] at hre hro hft
  have hsz6 : (ip 6).toInt = (N : Int) := by rw [hsz]; exact hN
  refine v_iconst (v := 0) C dX2_answerOf_0 (by decide) ?_
  refine v_istore_n (lv' := [(0, .ref (ad 49)), (1, .ref (ad b)), (2, .int m), (3, .int 0)]) C [1, 2, 3, 0] dX2_answerOf_1 rfl (by decide) rfl ?_
  refine v_iconst (v := 0) C dX2_answerOf_2 (by decide) ?_
  refine v_istore (lv' := [(0, .ref (ad 49)), (1, .ref (ad b)), (2, .int m), (3, .int 0), (4, .int 0)]) C [1, 2, 3, 4, 0] dX2_answerOf_3 (by decide) rfl ?_
  have LP1 : ∀ (t : Nat) (h1 : Nat) (y2 : Int32) (i1 : Nat) (y3 : Int32) (E4 : Nat → va_E) (pv1 : Nat → Int32) (K1 : Nat → Int32) (V1 : Nat → Int), (y2.toInt = (h1 : Int)) → (y3.toInt = (i1 : Int)) → (E4 50 = aI G 8 pv1) → (∀ j, j ≠ 50 → E4 j = E j) → (i1 ≤ N) → (RSf fo i1 = some ((h1 : Int), K1)) → (RVf ic md TT fo fx fy m.toInt i1 = some V1) → (okV ic md (h1 : Int) K1 V1) → (∀ j, j < h1 → (pv1 j).toInt = V1 j) → (N : Int) - (i1 : Int) < (t : Int) → V X G A 8 (QI X G A (98 + 9 * k) ad (fun r E' => (r.toInt = RUv ic md TT fo fx fy N m.toInt) ∧ (∃ pv2 : Nat → Int32, E' 50 = aI G 8 pv2) ∧ ∀ j, j ≠ 50 → E' j = E j)) (98 + 9 * k) ad 0 0 E4 5 [(0, .ref (ad 49)), (1, .ref (ad b)), (2, .int m), (3, .int y2), (4, .int y3)] [] := by
    intro t7
    induction t7 with
    | zero => intro h1 y2 i1 y3 E4 pv1 K1 V1 hy2 hy3 hE4_50 hfr5 hq6 hRS hRV hoV hpv hm9; exfalso; omega
    | succ t7 ih8 =>
      intro h1 y2 i1 y3 E4 pv1 K1 V1 hy2 hy3 hE4_50 hfr5 hq6 hRS hRV hoV hpv hm9
      have hE4_49 := (hfr5 49 (by decide)).trans h49
      have hE4_b := (hfr5 b (by omega)).trans hEb
      have hE4_b1 := (hfr5 (b + 1) (by omega)).trans hb1
      have hE4_b2 := (hfr5 (b + 2) (by omega)).trans hb2
      have hE4_b3 := (hfr5 (b + 3) (by omega)).trans hb3
      have hE4_b4 := (hfr5 (b + 4) (by omega)).trans hb4
      have hK1 := hK.go (fun j hj => hfr5 j (by omega))
      have hok := RS_ok i1 _ hRS
      dsimp only at hok
      have hh8 := hok.1
      refine v_iload C 4 dX2_answerOf_5 rfl ?_
      refine v_aload_n C 1 dX2_answerOf_7 rfl rfl ?_
      refine v_geti (v := ip 6) C b dX2_answerOf_8 fX2_23 (by omega) hE4_b rfl rfl ?_
      refine b_icmp_ge C 276 dX2_answerOf_11 (by decide) hy3 hsz6 (fun c10 => ?_) (fun c10 => ?_)
      · have h1e : (h1 : Int) = 1 := by have q := hRS; rw [show i1 = N by omega, hwh] at q; injection q with q; injection q with q1 q2; exact q1.symm
        refine v_iload_n C 3 dX2_answerOf_276 rfl rfl ?_
        refine v_iconst (v := 1) C dX2_answerOf_277 (by decide) ?_
        refine b_icmp_ne C 290 dX2_answerOf_278 (by decide) hy2 (show (1 : Int32).toInt = 1 by decide) (fun c11 => by exfalso; omega) (fun c11 => ?_)
        refine v_aload_n C 0 dX2_answerOf_281 rfl rfl ?_
        refine v_getr C 49 dX2_answerOf_282 fX2_9 (by omega) hE4_49 rfl rfl ?_
        refine v_iconst (v := 0) C dX2_answerOf_285 (by decide) ?_
        refine v_ald (v := pv1 0) C 50 dX2_answerOf_286 (by omega) hE4_50 (ti_in (show (0 : Int32).toInt = 0 by decide) (by omega) (by omega)) (congrArg pv1 (by decide)) ?_
        refine v_goto C 292 dX2_answerOf_287 (by decide) ?_
        exact v_ret C dX2_answerOf_292 rfl rfl ⟨(hpv 0 (by omega)).trans (RU_some (by rw [← (show i1 = N by omega)]; exact hRV)).symm, ⟨_, hE4_50⟩, fun j hj => hfr5 j hj⟩
      · obtain ⟨he1, he2, he3⟩ := hre i1 (by omega)
        have hop := hro i1 (by omega)
        have hln := hLn i1 (by omega)
        obtain ⟨⟨g2, K2⟩, hRS1⟩ := RS_all hwh (k := i1 + 1) (by omega)
        have hFT : FTs (fo i1).toInt (h1 : Int) K1 = some (g2, K2) := by rw [← RS_s hRS]; exact hRS1
        have hok2 := RS_ok (i1 + 1) _ hRS1
        dsimp only at hok2
        have hg8 := hok2.1
        have hRV1 := RV_s hRS hRS1 hRV
        dsimp only at hRV1
        have htp0 := hft.2.2 i1 (by omega) g2 K2 hRS1
        have hpo : (po i1).toInt = (fo i1).toInt := by rw [he1]
        have hpx : (px i1).toInt = (fx i1).toInt := by rw [he2]
        have hpy : (py i1).toInt = (fy i1).toInt := by rw [he3]
        rcases (show (fo i1).toInt = 0 ∨ (fo i1).toInt = 1 ∨ (fo i1).toInt = 2 ∨ (fo i1).toInt = 3 ∨ (fo i1).toInt = 4 ∨ (fo i1).toInt = 5 ∨ (fo i1).toInt = 6 ∨ (fo i1).toInt = 7 ∨ (fo i1).toInt = 8 ∨ (fo i1).toInt = 9 ∨ (fo i1).toInt = 10 ∨ (fo i1).toInt = 11 by omega) with ho | ho | ho | ho | ho | ho | ho | ho | ho | ho | ho | ho
        · rw [ho] at hFT hRV1
          obtain ⟨hg, e2, eK⟩ := FT_0 hFT
          have hgp : 0 < g2 := by omega
          rw [if_pos hgp] at htp0
          refine v_aload_n C 1 dX2_answerOf_14 rfl rfl ?_
          refine v_getr C b dX2_answerOf_15 fX2_29 (by omega) hE4_b rfl rfl ?_
          refine v_iload C 4 dX2_answerOf_18 rfl ?_
          refine v_ald (v := po i1) C (b + 1) dX2_answerOf_20 (by omega) hE4_b1 (ti_in hy3 (by omega) (by omega)) (by rw [ti_cl hy3, show Int.toNat (i1 : Int) = i1 by omega]) ?_
          refine v_istore (lv' := [(0, .ref (ad 49)), (1, .ref (ad b)), (2, .int m), (3, .int y2), (4, .int y3), (5, .int (po i1))]) C [1, 2, 3, 4, 5, 0] dX2_answerOf_21 (by decide) rfl ?_
          refine v_iload C 5 dX2_answerOf_23 rfl ?_
          refine b_if_ne C 32 dX2_answerOf_25 (by decide) hpo (fun c12 => by exfalso; omega) (fun c12 => ?_)
          refine v_iconst (v := 0) C dX2_answerOf_28 (by decide) ?_
          refine v_goto C 58 dX2_answerOf_29 (by decide) ?_
          refine v_istore (lv' := [(0, .ref (ad 49)), (1, .ref (ad b)), (2, .int m), (3, .int y2), (4, .int y3), (5, .int (po i1)), (6, .int 0)]) C [1, 2, 3, 4, 5, 6, 0] dX2_answerOf_58 (by decide) rfl ?_
          refine v_iload_n C 3 dX2_answerOf_60 rfl rfl ?_
          refine v_iload C 6 dX2_answerOf_61 rfl ?_
          refine b_icmp_lt C 84 dX2_answerOf_63 (by decide) hy2 (show (0 : Int32).toInt = 0 by decide) (fun c13 => by exfalso; omega) (fun c13 => ?_)
          refine v_iload_n C 3 dX2_answerOf_66 rfl rfl ?_
          refine v_bipush (v := 8) C dX2_answerOf_67 (by decide) ?_
          refine b_icmp_lt C 87 dX2_answerOf_69 (by decide) hy2 (show (8 : Int32).toInt = 8 by decide) (fun c14 => ?_) (fun c14 => by exfalso; omega)
          refine v_iload C 5 dX2_answerOf_87 rfl ?_
          refine b_if_ne C 105 dX2_answerOf_89 (by decide) hpo (fun c15 => by exfalso; omega) (fun c15 => ?_)
          refine v_aload_n C 0 dX2_answerOf_92 rfl rfl ?_
          refine v_getr C 49 dX2_answerOf_93 fX2_9 (by omega) hE4_49 rfl rfl ?_
          refine v_iload_n C 3 dX2_answerOf_96 rfl rfl ?_
          refine v_iload_n C 2 dX2_answerOf_97 rfl rfl ?_
          refine v_ast C 50 dX2_answerOf_98 (by omega) hE4_50 (ti_in hy2 (by omega) (by omega)) (fun E16 hE16_50 oE16 => ?_)
          rw [ti_cl hy2, show Int.toNat (h1 : Int) = h1 by omega] at hE16_50
          have hE16_49 := (oE16 49 (by decide)).trans hE4_49
          have hE16_b := (oE16 b (by omega)).trans hE4_b
          have hE16_b1 := (oE16 (b + 1) (by omega)).trans hE4_b1
          have hE16_b2 := (oE16 (b + 2) (by omega)).trans hE4_b2
          have hE16_b3 := (oE16 (b + 3) (by omega)).trans hE4_b3
          have hE16_b4 := (oE16 (b + 4) (by omega)).trans hE4_b4
          obtain ⟨x17, ex17⟩ : ∃ y : Int32, y = y2 + 1 := ⟨_, rfl⟩
          have hx17 : x17.toInt = ((h1 : Int) + 1) := by rw [ex17]; exact ti_add hy2 (show (1 : Int32).toInt = 1 by decide) (by omega) (by omega)
          refine v_iinc (v := x17) (lv' := [(0, .ref (ad 49)), (1, .ref (ad b)), (2, .int m), (3, .int x17), (4, .int y3), (5, .int (po i1)), (6, .int 0)]) C 3 [1, 2, 3, 0, 4, 5, 6] dX2_answerOf_99 rfl (ex17.symm) (by decide) rfl ?_
          refine v_goto C 270 dX2_answerOf_102 (by decide) ?_
          obtain ⟨x18, ex18⟩ : ∃ y : Int32, y = y3 + 1 := ⟨_, rfl⟩
          have hx18 : x18.toInt = ((i1 : Int) + 1) := by rw [ex18]; exact ti_add hy3 (show (1 : Int32).toInt = 1 by decide) (by omega) (by omega)
          refine v_iinc (v := x18) (lv' := [(0, .ref (ad 49)), (1, .ref (ad b)), (2, .int m), (3, .int x17), (4, .int x18), (5, .int (po i1)), (6, .int 0)]) C 4 [1, 2, 3, 4, 0, 5, 6] dX2_answerOf_270 rfl (ex18.symm) (by decide) rfl ?_
          refine v_goto C 5 dX2_answerOf_273 (by decide) ?_
          refine v_sub (lv' := [(0, .ref (ad 49)), (1, .ref (ad b)), (2, .int m), (3, .int x17), (4, .int x18)]) [0, 1, 2, 3, 4] rfl ?_
          have hRVn : RVf ic md TT fo fx fy m.toInt (i1 + 1) = some (updI V1 h1 m.toInt) := by rw [hRV1, VS_0, show ((h1 : Nat) : Int).toNat = h1 by omega]
          have hoVn := VS_ok hm (by omega) hok hoV hFT (hRV1.symm.trans hRVn)
          exact ih8 (h1 + 1) x17 (i1 + 1) x18 E16 (upd pv1 h1 m) K2 (updI V1 h1 m.toInt) (show Int32.toInt x17 = ((h1 + 1 : Nat) : Int) by have := hx17; omega) (show Int32.toInt x18 = ((i1 + 1 : Nat) : Int) by have := hx18; omega) hE16_50 (fun j g0 => ((oE16 j g0).trans (hfr5 j g0))) (by omega) (by rw [show (((h1 + 1 : Nat)) : Int) = g2 by omega]; exact hRS1) (hRVn) (by rw [show (((h1 + 1 : Nat)) : Int) = g2 by omega]; exact hoVn) (av_up hpv rfl (fun j q1 q2 => by omega)) (by omega)
        · rw [ho] at hFT hRV1
          obtain ⟨hg, e2, eK⟩ := FT_1 hFT
          have hgp : 0 < g2 := by omega
          rw [if_pos hgp] at htp0
          have htv : (tp i1).toInt = (K2 (g2 - 1).toNat).toInt := by rw [htp0]
          refine v_aload_n C 1 dX2_answerOf_14 rfl rfl ?_
          refine v_getr C b dX2_answerOf_15 fX2_29 (by omega) hE4_b rfl rfl ?_
          refine v_iload C 4 dX2_answerOf_18 rfl ?_
          refine v_ald (v := po i1) C (b + 1) dX2_answerOf_20 (by omega) hE4_b1 (ti_in hy3 (by omega) (by omega)) (by rw [ti_cl hy3, show Int.toNat (i1 : Int) = i1 by omega]) ?_
          refine v_istore (lv' := [(0, .ref (ad 49)), (1, .ref (ad b)), (2, .int m), (3, .int y2), (4, .int y3), (5, .int (po i1))]) C [1, 2, 3, 4, 5, 0] dX2_answerOf_21 (by decide) rfl ?_
          refine v_iload C 5 dX2_answerOf_23 rfl ?_
          refine b_if_ne C 32 dX2_answerOf_25 (by decide) hpo (fun c19 => ?_) (fun c19 => by exfalso; omega)
          refine v_iload C 5 dX2_answerOf_32 rfl ?_
          refine v_bipush (v := 8) C dX2_answerOf_34 (by decide) ?_
          refine b_icmp_eq C 53 dX2_answerOf_36 (by decide) hpo (show (8 : Int32).toInt = 8 by decide) (fun c20 => by exfalso; omega) (fun c20 => ?_)
          refine v_iload C 5 dX2_answerOf_39 rfl ?_
          refine v_bipush (v := 9) C dX2_answerOf_41 (by decide) ?_
          refine b_icmp_eq C 53 dX2_answerOf_43 (by decide) hpo (show (9 : Int32).toInt = 9 by decide) (fun c21 => by exfalso; omega) (fun c21 => ?_)
          refine v_iload C 5 dX2_answerOf_46 rfl ?_
          refine v_bipush (v := 11) C dX2_answerOf_48 (by decide) ?_
          refine b_icmp_ne C 57 dX2_answerOf_50 (by decide) hpo (show (11 : Int32).toInt = 11 by decide) (fun c22 => ?_) (fun c22 => by exfalso; omega)
          refine v_iconst (v := 1) C dX2_answerOf_57 (by decide) ?_
          refine v_istore (lv' := [(0, .ref (ad 49)), (1, .ref (ad b)), (2, .int m), (3, .int y2), (4, .int y3), (5, .int (po i1)), (6, .int 1)]) C [1, 2, 3, 4, 5, 6, 0] dX2_answerOf_58 (by decide) rfl ?_
          have hJ87 : V X G A 8 (QI X G A (98 + 9 * k) ad (fun r E' => (r.toInt = RUv ic md TT fo fx fy N m.toInt) ∧ (∃ pv2 : Nat → Int32, E' 50 = aI G 8 pv2) ∧ ∀ j, j ≠ 50 → E' j = E j)) (98 + 9 * k) ad 0 0 E4 87 [(0, .ref (ad 49)), (1, .ref (ad b)), (2, .int m), (3, .int y2), (4, .int y3), (5, .int (po i1)), (6, .int 1)] [] := by
            refine v_iload C 5 dX2_answerOf_87 rfl ?_
            refine b_if_ne C 105 dX2_answerOf_89 (by decide) hpo (fun c23 => ?_) (fun c23 => by exfalso; omega)
            refine v_iload C 5 dX2_answerOf_105 rfl ?_
            refine v_bipush (v := 10) C dX2_answerOf_107 (by decide) ?_
            refine b_icmp_ne C 132 dX2_answerOf_109 (by decide) hpo (show (10 : Int32).toInt = 10 by decide) (fun c24 => ?_) (fun c24 => by exfalso; omega)
            refine v_iload C 5 dX2_answerOf_132 rfl ?_
            refine v_bipush (v := 11) C dX2_answerOf_134 (by decide) ?_
            refine b_icmp_ne C 178 dX2_answerOf_136 (by decide) hpo (show (11 : Int32).toInt = 11 by decide) (fun c25 => ?_) (fun c25 => by exfalso; omega)
            refine v_iload C 6 dX2_answerOf_178 rfl ?_
            refine v_iconst (v := 2) C dX2_answerOf_180 (by decide) ?_
            refine b_icmp_ne C 210 dX2_answerOf_181 (by decide) (show (1 : Int32).toInt = 1 by decide) (show (2 : Int32).toInt = 2 by decide) (fun c26 => ?_) (fun c26 => absurd c26 (by decide))
            have hpv1 := hpv (h1 - 1) (by omega)
            have hw1 := ti_wi hP (hoV (h1 - 1) (by omega))
            refine v_aload_n C 0 dX2_answerOf_210 rfl rfl ?_
            refine v_aload_n C 1 dX2_answerOf_211 rfl rfl ?_
            refine v_iload C 4 dX2_answerOf_212 rfl ?_
            refine v_aload_n C 0 dX2_answerOf_214 rfl rfl ?_
            refine v_getr C 49 dX2_answerOf_215 fX2_9 (by omega) hE4_49 rfl rfl ?_
            refine v_iload_n C 3 dX2_answerOf_218 rfl rfl ?_
            refine v_iconst (v := 1) C dX2_answerOf_219 (by decide) ?_
            refine v_isub C dX2_answerOf_220 ?_
            refine v_top (fun x27 ex27 => ?_)
            have hx27 : x27.toInt = ((h1 : Int) - 1) := by rw [ex27]; exact ti_sub hy2 (show (1 : Int32).toInt = 1 by decide) (by omega) (by omega)
            refine v_ald (v := pv1 (h1 - 1)) C 50 dX2_answerOf_221 (by omega) hE4_50 (ti_in hx27 (by omega) (by omega)) (by rw [ti_cl hx27, show Int.toNat ((h1 : Int) - 1) = h1 - 1 by omega]) ?_
            have hkk := hg
            rw [show ((h1 : Int) - 1).toNat = h1 - 1 by omega] at hkk
            have hkd : ((po i1).toInt = 1 → (K1 (h1 - 1)).toInt = 0) ∧ ((po i1).toInt = 2 → (K1 (h1 - 1)).toInt = 1) ∧ ((po i1).toInt = 3 → (K1 (h1 - 1)).toInt = 2) ∧ ((po i1).toInt = 4 → (K1 (h1 - 1)).toInt = 1) ∧ ((po i1).toInt = 5 → (K1 (h1 - 1)).toInt = 0 ∨ (K1 (h1 - 1)).toInt = 1) ∧ ((po i1).toInt = 6 → ((K1 (h1 - 1)).toInt = 1 ∨ (K1 (h1 - 1)).toInt = 2) ∧ (tp i1).toInt = (K1 (h1 - 1)).toInt) ∧ ((po i1).toInt = 7 → (K1 (h1 - 1)).toInt = 2) := ⟨fun z => by omega, fun z => absurd z (by omega), fun z => absurd z (by omega), fun z => absurd z (by omega), fun z => absurd z (by omega), fun z => absurd z (by omega), fun z => absurd z (by omega)⟩
            refine v_cVp C dX2_answerOf_222 lX2_37 mX2_changed 49 (by omega) hE4_49 (by decide) rfl (g_changed l G 0 ad _ hK1 b (by omega) hE4_b hE4_b1 hE4_b2 hE4_b3 hE4_b4 (by omega) y3 (pv1 (h1 - 1)) (by have := hy3; omega) (by rw [hpo, hpx, hpy]; exact hln) (by omega) (by rw [hpv1]; exact hoV (h1 - 1) (by omega)) hkd) ⟨by decide, by decide⟩ rfl (Nat.le_of_ble_eq_true rfl) ⟨Nat.zero_le _, Nat.zero_le _⟩ (fun r28 hp29 => ?_)
            rw [hpo, ho, hpx, hpy, hpv1] at hp29
            refine v_istore (lv' := [(0, .ref (ad 49)), (1, .ref (ad b)), (2, .int m), (3, .int y2), (4, .int y3), (5, .int (po i1)), (6, .int 1), (7, .int r28)]) C [1, 2, 3, 4, 5, 6, 7, 0] dX2_answerOf_225 (by decide) rfl ?_
            refine v_aload_n C 0 dX2_answerOf_227 rfl rfl ?_
            refine v_aload_n C 1 dX2_answerOf_228 rfl rfl ?_
            refine v_getr C b dX2_answerOf_229 fX2_41 (by omega) hE4_b rfl rfl ?_
            refine v_iload C 4 dX2_answerOf_232 rfl ?_
            refine v_ald (v := tp i1) C (b + 4) dX2_answerOf_234 (by omega) hE4_b4 (ti_in hy3 (by omega) (by omega)) (by rw [ti_cl hy3, show Int.toNat (i1 : Int) = i1 by omega]) ?_
            refine v_iload C 7 dX2_answerOf_235 rfl ?_
            refine v_cVp C dX2_answerOf_237 lX2_44 mX2_isWithin 49 (by omega) hE4_49 (by decide) rfl (g_isWithin l G 0 ad _ hK1 (tp i1) r28) ⟨by decide, by decide⟩ rfl (Nat.le_of_ble_eq_true rfl) ⟨Nat.zero_le _, Nat.zero_le _⟩ (fun r30 hp31 => ?_)
            rw [htv, hp29] at hp31
            rcases hp31 with ⟨rfl, hwi⟩ | ⟨rfl, hwi⟩
            · have hRVn : RVf ic md TT fo fx fy m.toInt (i1 + 1) = some (updI V1 (h1 - 1) (chV ic md TT 1 (fx i1).toInt (fy i1).toInt (K1 (h1 - 1)).toInt (V1 (h1 - 1)))) := by rw [hRV1, VS_1 (by rw [show ((h1 : Int) - 1).toNat = h1 - 1 by omega]; exact hwi), show ((h1 : Int) - 1).toNat = h1 - 1 by omega]
              refine b_if_ne C 246 dX2_answerOf_240 (by decide) (show (1 : Int32).toInt = 1 by decide) (fun c32 => ?_) (fun c32 => absurd c32 (by decide))
              refine v_iload C 6 dX2_answerOf_246 rfl ?_
              refine v_iconst (v := 2) C dX2_answerOf_248 (by decide) ?_
              refine b_icmp_ne C 258 dX2_answerOf_249 (by decide) (show (1 : Int32).toInt = 1 by decide) (show (2 : Int32).toInt = 2 by decide) (fun c33 => ?_) (fun c33 => absurd c33 (by decide))
              refine v_iload_n C 3 dX2_answerOf_258 rfl rfl ?_
              refine v_istore_n (lv' := [(0, .ref (ad 49)), (1, .ref (ad b)), (2, .int m), (3, .int y2), (4, .int y3), (5, .int (po i1)), (6, .int 1), (7, .int r28)]) C [1, 2, 3, 0, 4, 5, 6, 7] dX2_answerOf_259 rfl (by decide) rfl ?_
              refine v_aload_n C 0 dX2_answerOf_260 rfl rfl ?_
              refine v_getr C 49 dX2_answerOf_261 fX2_9 (by omega) hE4_49 rfl rfl ?_
              refine v_iload_n C 3 dX2_answerOf_264 rfl rfl ?_
              refine v_iconst (v := 1) C dX2_answerOf_265 (by decide) ?_
              refine v_isub C dX2_answerOf_266 ?_
              refine v_top (fun x34 ex34 => ?_)
              have hx34 : x34.toInt = ((h1 : Int) - 1) := by rw [ex34]; exact ti_sub hy2 (show (1 : Int32).toInt = 1 by decide) (by omega) (by omega)
              refine v_iload C 7 dX2_answerOf_267 rfl ?_
              refine v_ast C 50 dX2_answerOf_269 (by omega) hE4_50 (ti_in hx34 (by omega) (by omega)) (fun E35 hE35_50 oE35 => ?_)
              rw [ti_cl hx34, show Int.toNat ((h1 : Int) - 1) = h1 - 1 by omega] at hE35_50
              have hE35_49 := (oE35 49 (by decide)).trans hE4_49
              have hE35_b := (oE35 b (by omega)).trans hE4_b
              have hE35_b1 := (oE35 (b + 1) (by omega)).trans hE4_b1
              have hE35_b2 := (oE35 (b + 2) (by omega)).trans hE4_b2
              have hE35_b3 := (oE35 (b + 3) (by omega)).trans hE4_b3
              have hE35_b4 := (oE35 (b + 4) (by omega)).trans hE4_b4
              obtain ⟨x36, ex36⟩ : ∃ y : Int32, y = y3 + 1 := ⟨_, rfl⟩
              have hx36 : x36.toInt = ((i1 : Int) + 1) := by rw [ex36]; exact ti_add hy3 (show (1 : Int32).toInt = 1 by decide) (by omega) (by omega)
              refine v_iinc (v := x36) (lv' := [(0, .ref (ad 49)), (1, .ref (ad b)), (2, .int m), (3, .int y2), (4, .int x36), (5, .int (po i1)), (6, .int 1), (7, .int r28)]) C 4 [1, 2, 3, 4, 0, 5, 6, 7] dX2_answerOf_270 rfl (ex36.symm) (by decide) rfl ?_
              refine v_goto C 5 dX2_answerOf_273 (by decide) ?_
              refine v_sub (lv' := [(0, .ref (ad 49)), (1, .ref (ad b)), (2, .int m), (3, .int y2), (4, .int x36)]) [0, 1, 2, 3, 4] rfl ?_
              have hoVn := VS_ok hm (by omega) hok hoV hFT (hRV1.symm.trans hRVn)
              exact ih8 h1 y2 (i1 + 1) x36 E35 (upd pv1 (h1 - 1) r28) K2 (updI V1 (h1 - 1) (chV ic md TT 1 (fx i1).toInt (fy i1).toInt (K1 (h1 - 1)).toInt (V1 (h1 - 1)))) (show Int32.toInt y2 = ((h1 : Nat) : Int) by have := hy2; omega) (show Int32.toInt x36 = ((i1 + 1 : Nat) : Int) by have := hx36; omega) hE35_50 (fun j g0 => ((oE35 j g0).trans (hfr5 j g0))) (by omega) (by rw [show (((h1 : Nat)) : Int) = g2 by omega]; exact hRS1) (hRVn) (by rw [show (((h1 : Nat)) : Int) = g2 by omega]; exact hoVn) (av_up hpv hp29 (fun j q1 q2 => by omega)) (by omega)
            · have hRVx : RVf ic md TT fo fx fy m.toInt (i1 + 1) = none := by rw [hRV1, VS_1n (by rw [show ((h1 : Int) - 1).toNat = h1 - 1 by omega]; exact hwi)]
              refine b_if_ne C 246 dX2_answerOf_240 (by decide) (show (0 : Int32).toInt = 0 by decide) (fun c37 => absurd c37 (by decide)) (fun c37 => ?_)
              refine v_ldc C dX2_answerOf_243 kX2_32 ?_
              exact v_ret C dX2_answerOf_245 rfl rfl ⟨(show (-2000000000 : Int32).toInt = -2000000000 by decide).trans (RU_none hRVx (by omega)).symm, ⟨_, hE4_50⟩, fun j hj => hfr5 j hj⟩
          refine v_iload_n C 3 dX2_answerOf_60 rfl rfl ?_
          refine v_iload C 6 dX2_answerOf_61 rfl ?_
          refine b_icmp_lt C 84 dX2_answerOf_63 (by decide) hy2 (show (1 : Int32).toInt = 1 by decide) (fun c38 => by exfalso; omega) (fun c38 => ?_)
          refine v_iload_n C 3 dX2_answerOf_66 rfl rfl ?_
          refine v_bipush (v := 8) C dX2_answerOf_67 (by decide) ?_
          refine b_icmp_lt C 87 dX2_answerOf_69 (by decide) hy2 (show (8 : Int32).toInt = 8 by decide) (fun c39 => ?_) (fun c39 => ?_)
          · exact hJ87
          · refine v_iload C 5 dX2_answerOf_72 rfl ?_
            refine b_if_eq C 84 dX2_answerOf_74 (by decide) hpo (fun c40 => by exfalso; omega) (fun c40 => ?_)
            refine v_iload C 5 dX2_answerOf_77 rfl ?_
            refine v_bipush (v := 10) C dX2_answerOf_79 (by decide) ?_
            refine b_icmp_ne C 87 dX2_answerOf_81 (by decide) hpo (show (10 : Int32).toInt = 10 by decide) (fun c41 => ?_) (fun c41 => by exfalso; omega)
            exact hJ87
        · rw [ho] at hFT hRV1
          obtain ⟨hg, e2, eK⟩ := FT_2 hFT
          have hgp : 0 < g2 := by omega
          rw [if_pos hgp] at htp0
          have htv : (tp i1).toInt = (K2 (g2 - 1).toNat).toInt := by rw [htp0]
          refine v_aload_n C 1 dX2_answerOf_14 rfl rfl ?_
          refine v_getr C b dX2_answerOf_15 fX2_29 (by omega) hE4_b rfl rfl ?_
          refine v_iload C 4 dX2_answerOf_18 rfl ?_
          refine v_ald (v := po i1) C (b + 1) dX2_answerOf_20 (by omega) hE4_b1 (ti_in hy3 (by omega) (by omega)) (by rw [ti_cl hy3, show Int.toNat (i1 : Int) = i1 by omega]) ?_
          refine v_istore (lv' := [(0, .ref (ad 49)), (1, .ref (ad b)), (2, .int m), (3, .int y2), (4, .int y3), (5, .int (po i1))]) C [1, 2, 3, 4, 5, 0] dX2_answerOf_21 (by decide) rfl ?_
          refine v_iload C 5 dX2_answerOf_23 rfl ?_
          refine b_if_ne C 32 dX2_answerOf_25 (by decide) hpo (fun c42 => ?_) (fun c42 => by exfalso; omega)
          refine v_iload C 5 dX2_answerOf_32 rfl ?_
          refine v_bipush (v := 8) C dX2_answerOf_34 (by decide) ?_
          refine b_icmp_eq C 53 dX2_answerOf_36 (by decide) hpo (show (8 : Int32).toInt = 8 by decide) (fun c43 => by exfalso; omega) (fun c43 => ?_)
          refine v_iload C 5 dX2_answerOf_39 rfl ?_
          refine v_bipush (v := 9) C dX2_answerOf_41 (by decide) ?_
          refine b_icmp_eq C 53 dX2_answerOf_43 (by decide) hpo (show (9 : Int32).toInt = 9 by decide) (fun c44 => by exfalso; omega) (fun c44 => ?_)
          refine v_iload C 5 dX2_answerOf_46 rfl ?_
          refine v_bipush (v := 11) C dX2_answerOf_48 (by decide) ?_
          refine b_icmp_ne C 57 dX2_answerOf_50 (by decide) hpo (show (11 : Int32).toInt = 11 by decide) (fun c45 => ?_) (fun c45 => by exfalso; omega)
          refine v_iconst (v := 1) C dX2_answerOf_57 (by decide) ?_
          refine v_istore (lv' := [(0, .ref (ad 49)), (1, .ref (ad b)), (2, .int m), (3, .int y2), (4, .int y3), (5, .int (po i1)), (6, .int 1)]) C [1, 2, 3, 4, 5, 6, 0] dX2_answerOf_58 (by decide) rfl ?_
          have hJ87 : V X G A 8 (QI X G A (98 + 9 * k) ad (fun r E' => (r.toInt = RUv ic md TT fo fx fy N m.toInt) ∧ (∃ pv2 : Nat → Int32, E' 50 = aI G 8 pv2) ∧ ∀ j, j ≠ 50 → E' j = E j)) (98 + 9 * k) ad 0 0 E4 87 [(0, .ref (ad 49)), (1, .ref (ad b)), (2, .int m), (3, .int y2), (4, .int y3), (5, .int (po i1)), (6, .int 1)] [] := by
            refine v_iload C 5 dX2_answerOf_87 rfl ?_
            refine b_if_ne C 105 dX2_answerOf_89 (by decide) hpo (fun c46 => ?_) (fun c46 => by exfalso; omega)
            refine v_iload C 5 dX2_answerOf_105 rfl ?_
            refine v_bipush (v := 10) C dX2_answerOf_107 (by decide) ?_
            refine b_icmp_ne C 132 dX2_answerOf_109 (by decide) hpo (show (10 : Int32).toInt = 10 by decide) (fun c47 => ?_) (fun c47 => by exfalso; omega)
            refine v_iload C 5 dX2_answerOf_132 rfl ?_
            refine v_bipush (v := 11) C dX2_answerOf_134 (by decide) ?_
            refine b_icmp_ne C 178 dX2_answerOf_136 (by decide) hpo (show (11 : Int32).toInt = 11 by decide) (fun c48 => ?_) (fun c48 => by exfalso; omega)
            refine v_iload C 6 dX2_answerOf_178 rfl ?_
            refine v_iconst (v := 2) C dX2_answerOf_180 (by decide) ?_
            refine b_icmp_ne C 210 dX2_answerOf_181 (by decide) (show (1 : Int32).toInt = 1 by decide) (show (2 : Int32).toInt = 2 by decide) (fun c49 => ?_) (fun c49 => absurd c49 (by decide))
            have hpv1 := hpv (h1 - 1) (by omega)
            have hw1 := ti_wi hP (hoV (h1 - 1) (by omega))
            refine v_aload_n C 0 dX2_answerOf_210 rfl rfl ?_
            refine v_aload_n C 1 dX2_answerOf_211 rfl rfl ?_
            refine v_iload C 4 dX2_answerOf_212 rfl ?_
            refine v_aload_n C 0 dX2_answerOf_214 rfl rfl ?_
            refine v_getr C 49 dX2_answerOf_215 fX2_9 (by omega) hE4_49 rfl rfl ?_
            refine v_iload_n C 3 dX2_answerOf_218 rfl rfl ?_
            refine v_iconst (v := 1) C dX2_answerOf_219 (by decide) ?_
            refine v_isub C dX2_answerOf_220 ?_
            refine v_top (fun x50 ex50 => ?_)
            have hx50 : x50.toInt = ((h1 : Int) - 1) := by rw [ex50]; exact ti_sub hy2 (show (1 : Int32).toInt = 1 by decide) (by omega) (by omega)
            refine v_ald (v := pv1 (h1 - 1)) C 50 dX2_answerOf_221 (by omega) hE4_50 (ti_in hx50 (by omega) (by omega)) (by rw [ti_cl hx50, show Int.toNat ((h1 : Int) - 1) = h1 - 1 by omega]) ?_
            have hkk := hg
            rw [show ((h1 : Int) - 1).toNat = h1 - 1 by omega] at hkk
            have hkd : ((po i1).toInt = 1 → (K1 (h1 - 1)).toInt = 0) ∧ ((po i1).toInt = 2 → (K1 (h1 - 1)).toInt = 1) ∧ ((po i1).toInt = 3 → (K1 (h1 - 1)).toInt = 2) ∧ ((po i1).toInt = 4 → (K1 (h1 - 1)).toInt = 1) ∧ ((po i1).toInt = 5 → (K1 (h1 - 1)).toInt = 0 ∨ (K1 (h1 - 1)).toInt = 1) ∧ ((po i1).toInt = 6 → ((K1 (h1 - 1)).toInt = 1 ∨ (K1 (h1 - 1)).toInt = 2) ∧ (tp i1).toInt = (K1 (h1 - 1)).toInt) ∧ ((po i1).toInt = 7 → (K1 (h1 - 1)).toInt = 2) := ⟨fun z => absurd z (by omega), fun z => by omega, fun z => absurd z (by omega), fun z => absurd z (by omega), fun z => absurd z (by omega), fun z => absurd z (by omega), fun z => absurd z (by omega)⟩
            refine v_cVp C dX2_answerOf_222 lX2_37 mX2_changed 49 (by omega) hE4_49 (by decide) rfl (g_changed l G 0 ad _ hK1 b (by omega) hE4_b hE4_b1 hE4_b2 hE4_b3 hE4_b4 (by omega) y3 (pv1 (h1 - 1)) (by have := hy3; omega) (by rw [hpo, hpx, hpy]; exact hln) (by omega) (by rw [hpv1]; exact hoV (h1 - 1) (by omega)) hkd) ⟨by decide, by decide⟩ rfl (Nat.le_of_ble_eq_true rfl) ⟨Nat.zero_le _, Nat.zero_le _⟩ (fun r51 hp52 => ?_)
            rw [hpo, ho, hpx, hpy, hpv1] at hp52
            refine v_istore (lv' := [(0, .ref (ad 49)), (1, .ref (ad b)), (2, .int m), (3, .int y2), (4, .int y3), (5, .int (po i1)), (6, .int 1), (7, .int r51)]) C [1, 2, 3, 4, 5, 6, 7, 0] dX2_answerOf_225 (by decide) rfl ?_
            refine v_aload_n C 0 dX2_answerOf_227 rfl rfl ?_
            refine v_aload_n C 1 dX2_answerOf_228 rfl rfl ?_
            refine v_getr C b dX2_answerOf_229 fX2_41 (by omega) hE4_b rfl rfl ?_
            refine v_iload C 4 dX2_answerOf_232 rfl ?_
            refine v_ald (v := tp i1) C (b + 4) dX2_answerOf_234 (by omega) hE4_b4 (ti_in hy3 (by omega) (by omega)) (by rw [ti_cl hy3, show Int.toNat (i1 : Int) = i1 by omega]) ?_
            refine v_iload C 7 dX2_answerOf_235 rfl ?_
            refine v_cVp C dX2_answerOf_237 lX2_44 mX2_isWithin 49 (by omega) hE4_49 (by decide) rfl (g_isWithin l G 0 ad _ hK1 (tp i1) r51) ⟨by decide, by decide⟩ rfl (Nat.le_of_ble_eq_true rfl) ⟨Nat.zero_le _, Nat.zero_le _⟩ (fun r53 hp54 => ?_)
            rw [htv, hp52] at hp54
            rcases hp54 with ⟨rfl, hwi⟩ | ⟨rfl, hwi⟩
            · have hRVn : RVf ic md TT fo fx fy m.toInt (i1 + 1) = some (updI V1 (h1 - 1) (chV ic md TT 2 (fx i1).toInt (fy i1).toInt (K1 (h1 - 1)).toInt (V1 (h1 - 1)))) := by rw [hRV1, VS_2 (by rw [show ((h1 : Int) - 1).toNat = h1 - 1 by omega]; exact hwi), show ((h1 : Int) - 1).toNat = h1 - 1 by omega]
              refine b_if_ne C 246 dX2_answerOf_240 (by decide) (show (1 : Int32).toInt = 1 by decide) (fun c55 => ?_) (fun c55 => absurd c55 (by decide))
              refine v_iload C 6 dX2_answerOf_246 rfl ?_
              refine v_iconst (v := 2) C dX2_answerOf_248 (by decide) ?_
              refine b_icmp_ne C 258 dX2_answerOf_249 (by decide) (show (1 : Int32).toInt = 1 by decide) (show (2 : Int32).toInt = 2 by decide) (fun c56 => ?_) (fun c56 => absurd c56 (by decide))
              refine v_iload_n C 3 dX2_answerOf_258 rfl rfl ?_
              refine v_istore_n (lv' := [(0, .ref (ad 49)), (1, .ref (ad b)), (2, .int m), (3, .int y2), (4, .int y3), (5, .int (po i1)), (6, .int 1), (7, .int r51)]) C [1, 2, 3, 0, 4, 5, 6, 7] dX2_answerOf_259 rfl (by decide) rfl ?_
              refine v_aload_n C 0 dX2_answerOf_260 rfl rfl ?_
              refine v_getr C 49 dX2_answerOf_261 fX2_9 (by omega) hE4_49 rfl rfl ?_
              refine v_iload_n C 3 dX2_answerOf_264 rfl rfl ?_
              refine v_iconst (v := 1) C dX2_answerOf_265 (by decide) ?_
              refine v_isub C dX2_answerOf_266 ?_
              refine v_top (fun x57 ex57 => ?_)
              have hx57 : x57.toInt = ((h1 : Int) - 1) := by rw [ex57]; exact ti_sub hy2 (show (1 : Int32).toInt = 1 by decide) (by omega) (by omega)
              refine v_iload C 7 dX2_answerOf_267 rfl ?_
              refine v_ast C 50 dX2_answerOf_269 (by omega) hE4_50 (ti_in hx57 (by omega) (by omega)) (fun E58 hE58_50 oE58 => ?_)
              rw [ti_cl hx57, show Int.toNat ((h1 : Int) - 1) = h1 - 1 by omega] at hE58_50
              have hE58_49 := (oE58 49 (by decide)).trans hE4_49
              have hE58_b := (oE58 b (by omega)).trans hE4_b
              have hE58_b1 := (oE58 (b + 1) (by omega)).trans hE4_b1
              have hE58_b2 := (oE58 (b + 2) (by omega)).trans hE4_b2
              have hE58_b3 := (oE58 (b + 3) (by omega)).trans hE4_b3
              have hE58_b4 := (oE58 (b + 4) (by omega)).trans hE4_b4
              obtain ⟨x59, ex59⟩ : ∃ y : Int32, y = y3 + 1 := ⟨_, rfl⟩
              have hx59 : x59.toInt = ((i1 : Int) + 1) := by rw [ex59]; exact ti_add hy3 (show (1 : Int32).toInt = 1 by decide) (by omega) (by omega)
              refine v_iinc (v := x59) (lv' := [(0, .ref (ad 49)), (1, .ref (ad b)), (2, .int m), (3, .int y2), (4, .int x59), (5, .int (po i1)), (6, .int 1), (7, .int r51)]) C 4 [1, 2, 3, 4, 0, 5, 6, 7] dX2_answerOf_270 rfl (ex59.symm) (by decide) rfl ?_
              refine v_goto C 5 dX2_answerOf_273 (by decide) ?_
              refine v_sub (lv' := [(0, .ref (ad 49)), (1, .ref (ad b)), (2, .int m), (3, .int y2), (4, .int x59)]) [0, 1, 2, 3, 4] rfl ?_
              have hoVn := VS_ok hm (by omega) hok hoV hFT (hRV1.symm.trans hRVn)
              exact ih8 h1 y2 (i1 + 1) x59 E58 (upd pv1 (h1 - 1) r51) K2 (updI V1 (h1 - 1) (chV ic md TT 2 (fx i1).toInt (fy i1).toInt (K1 (h1 - 1)).toInt (V1 (h1 - 1)))) (show Int32.toInt y2 = ((h1 : Nat) : Int) by have := hy2; omega) (show Int32.toInt x59 = ((i1 + 1 : Nat) : Int) by have := hx59; omega) hE58_50 (fun j g0 => ((oE58 j g0).trans (hfr5 j g0))) (by omega) (by rw [show (((h1 : Nat)) : Int) = g2 by omega]; exact hRS1) (hRVn) (by rw [show (((h1 : Nat)) : Int) = g2 by omega]; exact hoVn) (av_up hpv hp52 (fun j q1 q2 => by omega)) (by omega)
            · have hRVx : RVf ic md TT fo fx fy m.toInt (i1 + 1) = none := by rw [hRV1, VS_2n (by rw [show ((h1 : Int) - 1).toNat = h1 - 1 by omega]; exact hwi)]
              refine b_if_ne C 246 dX2_answerOf_240 (by decide) (show (0 : Int32).toInt = 0 by decide) (fun c60 => absurd c60 (by decide)) (fun c60 => ?_)
              refine v_ldc C dX2_answerOf_243 kX2_32 ?_
              exact v_ret C dX2_answerOf_245 rfl rfl ⟨(show (-2000000000 : Int32).toInt = -2000000000 by decide).trans (RU_none hRVx (by omega)).symm, ⟨_, hE4_50⟩, fun j hj => hfr5 j hj⟩
          refine v_iload_n C 3 dX2_answerOf_60 rfl rfl ?_
          refine v_iload C 6 dX2_answerOf_61 rfl ?_
          refine b_icmp_lt C 84 dX2_answerOf_63 (by decide) hy2 (show (1 : Int32).toInt = 1 by decide) (fun c61 => by exfalso; omega) (fun c61 => ?_)
          refine v_iload_n C 3 dX2_answerOf_66 rfl rfl ?_
          refine v_bipush (v := 8) C dX2_answerOf_67 (by decide) ?_
          refine b_icmp_lt C 87 dX2_answerOf_69 (by decide) hy2 (show (8 : Int32).toInt = 8 by decide) (fun c62 => ?_) (fun c62 => ?_)
          · exact hJ87
          · refine v_iload C 5 dX2_answerOf_72 rfl ?_
            refine b_if_eq C 84 dX2_answerOf_74 (by decide) hpo (fun c63 => by exfalso; omega) (fun c63 => ?_)
            refine v_iload C 5 dX2_answerOf_77 rfl ?_
            refine v_bipush (v := 10) C dX2_answerOf_79 (by decide) ?_
            refine b_icmp_ne C 87 dX2_answerOf_81 (by decide) hpo (show (10 : Int32).toInt = 10 by decide) (fun c64 => ?_) (fun c64 => by exfalso; omega)
            exact hJ87
        · rw [ho] at hFT hRV1
          obtain ⟨hg, e2, eK⟩ := FT_3 hFT
          have hgp : 0 < g2 := by omega
          rw [if_pos hgp] at htp0
          have htv : (tp i1).toInt = (K2 (g2 - 1).toNat).toInt := by rw [htp0]
          refine v_aload_n C 1 dX2_answerOf_14 rfl rfl ?_
          refine v_getr C b dX2_answerOf_15 fX2_29 (by omega) hE4_b rfl rfl ?_
          refine v_iload C 4 dX2_answerOf_18 rfl ?_
          refine v_ald (v := po i1) C (b + 1) dX2_answerOf_20 (by omega) hE4_b1 (ti_in hy3 (by omega) (by omega)) (by rw [ti_cl hy3, show Int.toNat (i1 : Int) = i1 by omega]) ?_
          refine v_istore (lv' := [(0, .ref (ad 49)), (1, .ref (ad b)), (2, .int m), (3, .int y2), (4, .int y3), (5, .int (po i1))]) C [1, 2, 3, 4, 5, 0] dX2_answerOf_21 (by decide) rfl ?_
          refine v_iload C 5 dX2_answerOf_23 rfl ?_
          refine b_if_ne C 32 dX2_answerOf_25 (by decide) hpo (fun c65 => ?_) (fun c65 => by exfalso; omega)
          refine v_iload C 5 dX2_answerOf_32 rfl ?_
          refine v_bipush (v := 8) C dX2_answerOf_34 (by decide) ?_
          refine b_icmp_eq C 53 dX2_answerOf_36 (by decide) hpo (show (8 : Int32).toInt = 8 by decide) (fun c66 => by exfalso; omega) (fun c66 => ?_)
          refine v_iload C 5 dX2_answerOf_39 rfl ?_
          refine v_bipush (v := 9) C dX2_answerOf_41 (by decide) ?_
          refine b_icmp_eq C 53 dX2_answerOf_43 (by decide) hpo (show (9 : Int32).toInt = 9 by decide) (fun c67 => by exfalso; omega) (fun c67 => ?_)
          refine v_iload C 5 dX2_answerOf_46 rfl ?_
          refine v_bipush (v := 11) C dX2_answerOf_48 (by decide) ?_
          refine b_icmp_ne C 57 dX2_answerOf_50 (by decide) hpo (show (11 : Int32).toInt = 11 by decide) (fun c68 => ?_) (fun c68 => by exfalso; omega)
          refine v_iconst (v := 1) C dX2_answerOf_57 (by decide) ?_
          refine v_istore (lv' := [(0, .ref (ad 49)), (1, .ref (ad b)), (2, .int m), (3, .int y2), (4, .int y3), (5, .int (po i1)), (6, .int 1)]) C [1, 2, 3, 4, 5, 6, 0] dX2_answerOf_58 (by decide) rfl ?_
          have hJ87 : V X G A 8 (QI X G A (98 + 9 * k) ad (fun r E' => (r.toInt = RUv ic md TT fo fx fy N m.toInt) ∧ (∃ pv2 : Nat → Int32, E' 50 = aI G 8 pv2) ∧ ∀ j, j ≠ 50 → E' j = E j)) (98 + 9 * k) ad 0 0 E4 87 [(0, .ref (ad 49)), (1, .ref (ad b)), (2, .int m), (3, .int y2), (4, .int y3), (5, .int (po i1)), (6, .int 1)] [] := by
            refine v_iload C 5 dX2_answerOf_87 rfl ?_
            refine b_if_ne C 105 dX2_answerOf_89 (by decide) hpo (fun c69 => ?_) (fun c69 => by exfalso; omega)
            refine v_iload C 5 dX2_answerOf_105 rfl ?_
            refine v_bipush (v := 10) C dX2_answerOf_107 (by decide) ?_
            refine b_icmp_ne C 132 dX2_answerOf_109 (by decide) hpo (show (10 : Int32).toInt = 10 by decide) (fun c70 => ?_) (fun c70 => by exfalso; omega)
            refine v_iload C 5 dX2_answerOf_132 rfl ?_
            refine v_bipush (v := 11) C dX2_answerOf_134 (by decide) ?_
            refine b_icmp_ne C 178 dX2_answerOf_136 (by decide) hpo (show (11 : Int32).toInt = 11 by decide) (fun c71 => ?_) (fun c71 => by exfalso; omega)
            refine v_iload C 6 dX2_answerOf_178 rfl ?_
            refine v_iconst (v := 2) C dX2_answerOf_180 (by decide) ?_
            refine b_icmp_ne C 210 dX2_answerOf_181 (by decide) (show (1 : Int32).toInt = 1 by decide) (show (2 : Int32).toInt = 2 by decide) (fun c72 => ?_) (fun c72 => absurd c72 (by decide))
            have hpv1 := hpv (h1 - 1) (by omega)
            have hw1 := ti_wi hP (hoV (h1 - 1) (by omega))
            refine v_aload_n C 0 dX2_answerOf_210 rfl rfl ?_
            refine v_aload_n C 1 dX2_answerOf_211 rfl rfl ?_
            refine v_iload C 4 dX2_answerOf_212 rfl ?_
            refine v_aload_n C 0 dX2_answerOf_214 rfl rfl ?_
            refine v_getr C 49 dX2_answerOf_215 fX2_9 (by omega) hE4_49 rfl rfl ?_
            refine v_iload_n C 3 dX2_answerOf_218 rfl rfl ?_
            refine v_iconst (v := 1) C dX2_answerOf_219 (by decide) ?_
            refine v_isub C dX2_answerOf_220 ?_
            refine v_top (fun x73 ex73 => ?_)
            have hx73 : x73.toInt = ((h1 : Int) - 1) := by rw [ex73]; exact ti_sub hy2 (show (1 : Int32).toInt = 1 by decide) (by omega) (by omega)
            refine v_ald (v := pv1 (h1 - 1)) C 50 dX2_answerOf_221 (by omega) hE4_50 (ti_in hx73 (by omega) (by omega)) (by rw [ti_cl hx73, show Int.toNat ((h1 : Int) - 1) = h1 - 1 by omega]) ?_
            have hkk := hg
            rw [show ((h1 : Int) - 1).toNat = h1 - 1 by omega] at hkk
            have hkd : ((po i1).toInt = 1 → (K1 (h1 - 1)).toInt = 0) ∧ ((po i1).toInt = 2 → (K1 (h1 - 1)).toInt = 1) ∧ ((po i1).toInt = 3 → (K1 (h1 - 1)).toInt = 2) ∧ ((po i1).toInt = 4 → (K1 (h1 - 1)).toInt = 1) ∧ ((po i1).toInt = 5 → (K1 (h1 - 1)).toInt = 0 ∨ (K1 (h1 - 1)).toInt = 1) ∧ ((po i1).toInt = 6 → ((K1 (h1 - 1)).toInt = 1 ∨ (K1 (h1 - 1)).toInt = 2) ∧ (tp i1).toInt = (K1 (h1 - 1)).toInt) ∧ ((po i1).toInt = 7 → (K1 (h1 - 1)).toInt = 2) := ⟨fun z => absurd z (by omega), fun z => absurd z (by omega), fun z => by omega, fun z => absurd z (by omega), fun z => absurd z (by omega), fun z => absurd z (by omega), fun z => absurd z (by omega)⟩
            refine v_cVp C dX2_answerOf_222 lX2_37 mX2_changed 49 (by omega) hE4_49 (by decide) rfl (g_changed l G 0 ad _ hK1 b (by omega) hE4_b hE4_b1 hE4_b2 hE4_b3 hE4_b4 (by omega) y3 (pv1 (h1 - 1)) (by have := hy3; omega) (by rw [hpo, hpx, hpy]; exact hln) (by omega) (by rw [hpv1]; exact hoV (h1 - 1) (by omega)) hkd) ⟨by decide, by decide⟩ rfl (Nat.le_of_ble_eq_true rfl) ⟨Nat.zero_le _, Nat.zero_le _⟩ (fun r74 hp75 => ?_)
            rw [hpo, ho, hpx, hpy, hpv1] at hp75
            refine v_istore (lv' := [(0, .ref (ad 49)), (1, .ref (ad b)), (2, .int m), (3, .int y2), (4, .int y3), (5, .int (po i1)), (6, .int 1), (7, .int r74)]) C [1, 2, 3, 4, 5, 6, 7, 0] dX2_answerOf_225 (by decide) rfl ?_
            refine v_aload_n C 0 dX2_answerOf_227 rfl rfl ?_
            refine v_aload_n C 1 dX2_answerOf_228 rfl rfl ?_
            refine v_getr C b dX2_answerOf_229 fX2_41 (by omega) hE4_b rfl rfl ?_
            refine v_iload C 4 dX2_answerOf_232 rfl ?_
            refine v_ald (v := tp i1) C (b + 4) dX2_answerOf_234 (by omega) hE4_b4 (ti_in hy3 (by omega) (by omega)) (by rw [ti_cl hy3, show Int.toNat (i1 : Int) = i1 by omega]) ?_
            refine v_iload C 7 dX2_answerOf_235 rfl ?_
            refine v_cVp C dX2_answerOf_237 lX2_44 mX2_isWithin 49 (by omega) hE4_49 (by decide) rfl (g_isWithin l G 0 ad _ hK1 (tp i1) r74) ⟨by decide, by decide⟩ rfl (Nat.le_of_ble_eq_true rfl) ⟨Nat.zero_le _, Nat.zero_le _⟩ (fun r76 hp77 => ?_)
            rw [htv, hp75] at hp77
            rcases hp77 with ⟨rfl, hwi⟩ | ⟨rfl, hwi⟩
            · have hRVn : RVf ic md TT fo fx fy m.toInt (i1 + 1) = some (updI V1 (h1 - 1) (chV ic md TT 3 (fx i1).toInt (fy i1).toInt (K1 (h1 - 1)).toInt (V1 (h1 - 1)))) := by rw [hRV1, VS_3 (by rw [show ((h1 : Int) - 1).toNat = h1 - 1 by omega]; exact hwi), show ((h1 : Int) - 1).toNat = h1 - 1 by omega]
              refine b_if_ne C 246 dX2_answerOf_240 (by decide) (show (1 : Int32).toInt = 1 by decide) (fun c78 => ?_) (fun c78 => absurd c78 (by decide))
              refine v_iload C 6 dX2_answerOf_246 rfl ?_
              refine v_iconst (v := 2) C dX2_answerOf_248 (by decide) ?_
              refine b_icmp_ne C 258 dX2_answerOf_249 (by decide) (show (1 : Int32).toInt = 1 by decide) (show (2 : Int32).toInt = 2 by decide) (fun c79 => ?_) (fun c79 => absurd c79 (by decide))
              refine v_iload_n C 3 dX2_answerOf_258 rfl rfl ?_
              refine v_istore_n (lv' := [(0, .ref (ad 49)), (1, .ref (ad b)), (2, .int m), (3, .int y2), (4, .int y3), (5, .int (po i1)), (6, .int 1), (7, .int r74)]) C [1, 2, 3, 0, 4, 5, 6, 7] dX2_answerOf_259 rfl (by decide) rfl ?_
              refine v_aload_n C 0 dX2_answerOf_260 rfl rfl ?_
              refine v_getr C 49 dX2_answerOf_261 fX2_9 (by omega) hE4_49 rfl rfl ?_
              refine v_iload_n C 3 dX2_answerOf_264 rfl rfl ?_
              refine v_iconst (v := 1) C dX2_answerOf_265 (by decide) ?_
              refine v_isub C dX2_answerOf_266 ?_
              refine v_top (fun x80 ex80 => ?_)
              have hx80 : x80.toInt = ((h1 : Int) - 1) := by rw [ex80]; exact ti_sub hy2 (show (1 : Int32).toInt = 1 by decide) (by omega) (by omega)
              refine v_iload C 7 dX2_answerOf_267 rfl ?_
              refine v_ast C 50 dX2_answerOf_269 (by omega) hE4_50 (ti_in hx80 (by omega) (by omega)) (fun E81 hE81_50 oE81 => ?_)
              rw [ti_cl hx80, show Int.toNat ((h1 : Int) - 1) = h1 - 1 by omega] at hE81_50
              have hE81_49 := (oE81 49 (by decide)).trans hE4_49
              have hE81_b := (oE81 b (by omega)).trans hE4_b
              have hE81_b1 := (oE81 (b + 1) (by omega)).trans hE4_b1
              have hE81_b2 := (oE81 (b + 2) (by omega)).trans hE4_b2
              have hE81_b3 := (oE81 (b + 3) (by omega)).trans hE4_b3
              have hE81_b4 := (oE81 (b + 4) (by omega)).trans hE4_b4
              obtain ⟨x82, ex82⟩ : ∃ y : Int32, y = y3 + 1 := ⟨_, rfl⟩
              have hx82 : x82.toInt = ((i1 : Int) + 1) := by rw [ex82]; exact ti_add hy3 (show (1 : Int32).toInt = 1 by decide) (by omega) (by omega)
              refine v_iinc (v := x82) (lv' := [(0, .ref (ad 49)), (1, .ref (ad b)), (2, .int m), (3, .int y2), (4, .int x82), (5, .int (po i1)), (6, .int 1), (7, .int r74)]) C 4 [1, 2, 3, 4, 0, 5, 6, 7] dX2_answerOf_270 rfl (ex82.symm) (by decide) rfl ?_
              refine v_goto C 5 dX2_answerOf_273 (by decide) ?_
              refine v_sub (lv' := [(0, .ref (ad 49)), (1, .ref (ad b)), (2, .int m), (3, .int y2), (4, .int x82)]) [0, 1, 2, 3, 4] rfl ?_
              have hoVn := VS_ok hm (by omega) hok hoV hFT (hRV1.symm.trans hRVn)
              exact ih8 h1 y2 (i1 + 1) x82 E81 (upd pv1 (h1 - 1) r74) K2 (updI V1 (h1 - 1) (chV ic md TT 3 (fx i1).toInt (fy i1).toInt (K1 (h1 - 1)).toInt (V1 (h1 - 1)))) (show Int32.toInt y2 = ((h1 : Nat) : Int) by have := hy2; omega) (show Int32.toInt x82 = ((i1 + 1 : Nat) : Int) by have := hx82; omega) hE81_50 (fun j g0 => ((oE81 j g0).trans (hfr5 j g0))) (by omega) (by rw [show (((h1 : Nat)) : Int) = g2 by omega]; exact hRS1) (hRVn) (by rw [show (((h1 : Nat)) : Int) = g2 by omega]; exact hoVn) (av_up hpv hp75 (fun j q1 q2 => by omega)) (by omega)
            · have hRVx : RVf ic md TT fo fx fy m.toInt (i1 + 1) = none := by rw [hRV1, VS_3n (by rw [show ((h1 : Int) - 1).toNat = h1 - 1 by omega]; exact hwi)]
              refine b_if_ne C 246 dX2_answerOf_240 (by decide) (show (0 : Int32).toInt = 0 by decide) (fun c83 => absurd c83 (by decide)) (fun c83 => ?_)
              refine v_ldc C dX2_answerOf_243 kX2_32 ?_
              exact v_ret C dX2_answerOf_245 rfl rfl ⟨(show (-2000000000 : Int32).toInt = -2000000000 by decide).trans (RU_none hRVx (by omega)).symm, ⟨_, hE4_50⟩, fun j hj => hfr5 j hj⟩
          refine v_iload_n C 3 dX2_answerOf_60 rfl rfl ?_
          refine v_iload C 6 dX2_answerOf_61 rfl ?_
          refine b_icmp_lt C 84 dX2_answerOf_63 (by decide) hy2 (show (1 : Int32).toInt = 1 by decide) (fun c84 => by exfalso; omega) (fun c84 => ?_)
          refine v_iload_n C 3 dX2_answerOf_66 rfl rfl ?_
          refine v_bipush (v := 8) C dX2_answerOf_67 (by decide) ?_
          refine b_icmp_lt C 87 dX2_answerOf_69 (by decide) hy2 (show (8 : Int32).toInt = 8 by decide) (fun c85 => ?_) (fun c85 => ?_)
          · exact hJ87
          · refine v_iload C 5 dX2_answerOf_72 rfl ?_
            refine b_if_eq C 84 dX2_answerOf_74 (by decide) hpo (fun c86 => by exfalso; omega) (fun c86 => ?_)
            refine v_iload C 5 dX2_answerOf_77 rfl ?_
            refine v_bipush (v := 10) C dX2_answerOf_79 (by decide) ?_
            refine b_icmp_ne C 87 dX2_answerOf_81 (by decide) hpo (show (10 : Int32).toInt = 10 by decide) (fun c87 => ?_) (fun c87 => by exfalso; omega)
            exact hJ87
        · rw [ho] at hFT hRV1
          obtain ⟨hg, e2, eK⟩ := FT_4 hFT
          have hgp : 0 < g2 := by omega
          rw [if_pos hgp] at htp0
          have htv : (tp i1).toInt = (K2 (g2 - 1).toNat).toInt := by rw [htp0]
          refine v_aload_n C 1 dX2_answerOf_14 rfl rfl ?_
          refine v_getr C b dX2_answerOf_15 fX2_29 (by omega) hE4_b rfl rfl ?_
          refine v_iload C 4 dX2_answerOf_18 rfl ?_
          refine v_ald (v := po i1) C (b + 1) dX2_answerOf_20 (by omega) hE4_b1 (ti_in hy3 (by omega) (by omega)) (by rw [ti_cl hy3, show Int.toNat (i1 : Int) = i1 by omega]) ?_
          refine v_istore (lv' := [(0, .ref (ad 49)), (1, .ref (ad b)), (2, .int m), (3, .int y2), (4, .int y3), (5, .int (po i1))]) C [1, 2, 3, 4, 5, 0] dX2_answerOf_21 (by decide) rfl ?_
          refine v_iload C 5 dX2_answerOf_23 rfl ?_
          refine b_if_ne C 32 dX2_answerOf_25 (by decide) hpo (fun c88 => ?_) (fun c88 => by exfalso; omega)
          refine v_iload C 5 dX2_answerOf_32 rfl ?_
          refine v_bipush (v := 8) C dX2_answerOf_34 (by decide) ?_
          refine b_icmp_eq C 53 dX2_answerOf_36 (by decide) hpo (show (8 : Int32).toInt = 8 by decide) (fun c89 => by exfalso; omega) (fun c89 => ?_)
          refine v_iload C 5 dX2_answerOf_39 rfl ?_
          refine v_bipush (v := 9) C dX2_answerOf_41 (by decide) ?_
          refine b_icmp_eq C 53 dX2_answerOf_43 (by decide) hpo (show (9 : Int32).toInt = 9 by decide) (fun c90 => by exfalso; omega) (fun c90 => ?_)
          refine v_iload C 5 dX2_answerOf_46 rfl ?_
          refine v_bipush (v := 11) C dX2_answerOf_48 (by decide) ?_
          refine b_icmp_ne C 57 dX2_answerOf_50 (by decide) hpo (show (11 : Int32).toInt = 11 by decide) (fun c91 => ?_) (fun c91 => by exfalso; omega)
          refine v_iconst (v := 1) C dX2_answerOf_57 (by decide) ?_
          refine v_istore (lv' := [(0, .ref (ad 49)), (1, .ref (ad b)), (2, .int m), (3, .int y2), (4, .int y3), (5, .int (po i1)), (6, .int 1)]) C [1, 2, 3, 4, 5, 6, 0] dX2_answerOf_58 (by decide) rfl ?_
          have hJ87 : V X G A 8 (QI X G A (98 + 9 * k) ad (fun r E' => (r.toInt = RUv ic md TT fo fx fy N m.toInt) ∧ (∃ pv2 : Nat → Int32, E' 50 = aI G 8 pv2) ∧ ∀ j, j ≠ 50 → E' j = E j)) (98 + 9 * k) ad 0 0 E4 87 [(0, .ref (ad 49)), (1, .ref (ad b)), (2, .int m), (3, .int y2), (4, .int y3), (5, .int (po i1)), (6, .int 1)] [] := by
            refine v_iload C 5 dX2_answerOf_87 rfl ?_
            refine b_if_ne C 105 dX2_answerOf_89 (by decide) hpo (fun c92 => ?_) (fun c92 => by exfalso; omega)
            refine v_iload C 5 dX2_answerOf_105 rfl ?_
            refine v_bipush (v := 10) C dX2_answerOf_107 (by decide) ?_
            refine b_icmp_ne C 132 dX2_answerOf_109 (by decide) hpo (show (10 : Int32).toInt = 10 by decide) (fun c93 => ?_) (fun c93 => by exfalso; omega)
            refine v_iload C 5 dX2_answerOf_132 rfl ?_
            refine v_bipush (v := 11) C dX2_answerOf_134 (by decide) ?_
            refine b_icmp_ne C 178 dX2_answerOf_136 (by decide) hpo (show (11 : Int32).toInt = 11 by decide) (fun c94 => ?_) (fun c94 => by exfalso; omega)
            refine v_iload C 6 dX2_answerOf_178 rfl ?_
            refine v_iconst (v := 2) C dX2_answerOf_180 (by decide) ?_
            refine b_icmp_ne C 210 dX2_answerOf_181 (by decide) (show (1 : Int32).toInt = 1 by decide) (show (2 : Int32).toInt = 2 by decide) (fun c95 => ?_) (fun c95 => absurd c95 (by decide))
            have hpv1 := hpv (h1 - 1) (by omega)
            have hw1 := ti_wi hP (hoV (h1 - 1) (by omega))
            refine v_aload_n C 0 dX2_answerOf_210 rfl rfl ?_
            refine v_aload_n C 1 dX2_answerOf_211 rfl rfl ?_
            refine v_iload C 4 dX2_answerOf_212 rfl ?_
            refine v_aload_n C 0 dX2_answerOf_214 rfl rfl ?_
            refine v_getr C 49 dX2_answerOf_215 fX2_9 (by omega) hE4_49 rfl rfl ?_
            refine v_iload_n C 3 dX2_answerOf_218 rfl rfl ?_
            refine v_iconst (v := 1) C dX2_answerOf_219 (by decide) ?_
            refine v_isub C dX2_answerOf_220 ?_
            refine v_top (fun x96 ex96 => ?_)
            have hx96 : x96.toInt = ((h1 : Int) - 1) := by rw [ex96]; exact ti_sub hy2 (show (1 : Int32).toInt = 1 by decide) (by omega) (by omega)
            refine v_ald (v := pv1 (h1 - 1)) C 50 dX2_answerOf_221 (by omega) hE4_50 (ti_in hx96 (by omega) (by omega)) (by rw [ti_cl hx96, show Int.toNat ((h1 : Int) - 1) = h1 - 1 by omega]) ?_
            have hkk := hg
            rw [show ((h1 : Int) - 1).toNat = h1 - 1 by omega] at hkk
            have hkd : ((po i1).toInt = 1 → (K1 (h1 - 1)).toInt = 0) ∧ ((po i1).toInt = 2 → (K1 (h1 - 1)).toInt = 1) ∧ ((po i1).toInt = 3 → (K1 (h1 - 1)).toInt = 2) ∧ ((po i1).toInt = 4 → (K1 (h1 - 1)).toInt = 1) ∧ ((po i1).toInt = 5 → (K1 (h1 - 1)).toInt = 0 ∨ (K1 (h1 - 1)).toInt = 1) ∧ ((po i1).toInt = 6 → ((K1 (h1 - 1)).toInt = 1 ∨ (K1 (h1 - 1)).toInt = 2) ∧ (tp i1).toInt = (K1 (h1 - 1)).toInt) ∧ ((po i1).toInt = 7 → (K1 (h1 - 1)).toInt = 2) := ⟨fun z => absurd z (by omega), fun z => absurd z (by omega), fun z => absurd z (by omega), fun z => by omega, fun z => absurd z (by omega), fun z => absurd z (by omega), fun z => absurd z (by omega)⟩
            refine v_cVp C dX2_answerOf_222 lX2_37 mX2_changed 49 (by omega) hE4_49 (by decide) rfl (g_changed l G 0 ad _ hK1 b (by omega) hE4_b hE4_b1 hE4_b2 hE4_b3 hE4_b4 (by omega) y3 (pv1 (h1 - 1)) (by have := hy3; omega) (by rw [hpo, hpx, hpy]; exact hln) (by omega) (by rw [hpv1]; exact hoV (h1 - 1) (by omega)) hkd) ⟨by decide, by decide⟩ rfl (Nat.le_of_ble_eq_true rfl) ⟨Nat.zero_le _, Nat.zero_le _⟩ (fun r97 hp98 => ?_)
            rw [hpo, ho, hpx, hpy, hpv1] at hp98
            refine v_istore (lv' := [(0, .ref (ad 49)), (1, .ref (ad b)), (2, .int m), (3, .int y2), (4, .int y3), (5, .int (po i1)), (6, .int 1), (7, .int r97)]) C [1, 2, 3, 4, 5, 6, 7, 0] dX2_answerOf_225 (by decide) rfl ?_
            refine v_aload_n C 0 dX2_answerOf_227 rfl rfl ?_
            refine v_aload_n C 1 dX2_answerOf_228 rfl rfl ?_
            refine v_getr C b dX2_answerOf_229 fX2_41 (by omega) hE4_b rfl rfl ?_
            refine v_iload C 4 dX2_answerOf_232 rfl ?_
            refine v_ald (v := tp i1) C (b + 4) dX2_answerOf_234 (by omega) hE4_b4 (ti_in hy3 (by omega) (by omega)) (by rw [ti_cl hy3, show Int.toNat (i1 : Int) = i1 by omega]) ?_
            refine v_iload C 7 dX2_answerOf_235 rfl ?_
            refine v_cVp C dX2_answerOf_237 lX2_44 mX2_isWithin 49 (by omega) hE4_49 (by decide) rfl (g_isWithin l G 0 ad _ hK1 (tp i1) r97) ⟨by decide, by decide⟩ rfl (Nat.le_of_ble_eq_true rfl) ⟨Nat.zero_le _, Nat.zero_le _⟩ (fun r99 hp100 => ?_)
            rw [htv, hp98] at hp100
            rcases hp100 with ⟨rfl, hwi⟩ | ⟨rfl, hwi⟩
            · have hRVn : RVf ic md TT fo fx fy m.toInt (i1 + 1) = some (updI V1 (h1 - 1) (chV ic md TT 4 (fx i1).toInt (fy i1).toInt (K1 (h1 - 1)).toInt (V1 (h1 - 1)))) := by rw [hRV1, VS_4 (by rw [show ((h1 : Int) - 1).toNat = h1 - 1 by omega]; exact hwi), show ((h1 : Int) - 1).toNat = h1 - 1 by omega]
              refine b_if_ne C 246 dX2_answerOf_240 (by decide) (show (1 : Int32).toInt = 1 by decide) (fun c101 => ?_) (fun c101 => absurd c101 (by decide))
              refine v_iload C 6 dX2_answerOf_246 rfl ?_
              refine v_iconst (v := 2) C dX2_answerOf_248 (by decide) ?_
              refine b_icmp_ne C 258 dX2_answerOf_249 (by decide) (show (1 : Int32).toInt = 1 by decide) (show (2 : Int32).toInt = 2 by decide) (fun c102 => ?_) (fun c102 => absurd c102 (by decide))
              refine v_iload_n C 3 dX2_answerOf_258 rfl rfl ?_
              refine v_istore_n (lv' := [(0, .ref (ad 49)), (1, .ref (ad b)), (2, .int m), (3, .int y2), (4, .int y3), (5, .int (po i1)), (6, .int 1), (7, .int r97)]) C [1, 2, 3, 0, 4, 5, 6, 7] dX2_answerOf_259 rfl (by decide) rfl ?_
              refine v_aload_n C 0 dX2_answerOf_260 rfl rfl ?_
              refine v_getr C 49 dX2_answerOf_261 fX2_9 (by omega) hE4_49 rfl rfl ?_
              refine v_iload_n C 3 dX2_answerOf_264 rfl rfl ?_
              refine v_iconst (v := 1) C dX2_answerOf_265 (by decide) ?_
              refine v_isub C dX2_answerOf_266 ?_
              refine v_top (fun x103 ex103 => ?_)
              have hx103 : x103.toInt = ((h1 : Int) - 1) := by rw [ex103]; exact ti_sub hy2 (show (1 : Int32).toInt = 1 by decide) (by omega) (by omega)
              refine v_iload C 7 dX2_answerOf_267 rfl ?_
              refine v_ast C 50 dX2_answerOf_269 (by omega) hE4_50 (ti_in hx103 (by omega) (by omega)) (fun E104 hE104_50 oE104 => ?_)
              rw [ti_cl hx103, show Int.toNat ((h1 : Int) - 1) = h1 - 1 by omega] at hE104_50
              have hE104_49 := (oE104 49 (by decide)).trans hE4_49
              have hE104_b := (oE104 b (by omega)).trans hE4_b
              have hE104_b1 := (oE104 (b + 1) (by omega)).trans hE4_b1
              have hE104_b2 := (oE104 (b + 2) (by omega)).trans hE4_b2
              have hE104_b3 := (oE104 (b + 3) (by omega)).trans hE4_b3
              have hE104_b4 := (oE104 (b + 4) (by omega)).trans hE4_b4
              obtain ⟨x105, ex105⟩ : ∃ y : Int32, y = y3 + 1 := ⟨_, rfl⟩
              have hx105 : x105.toInt = ((i1 : Int) + 1) := by rw [ex105]; exact ti_add hy3 (show (1 : Int32).toInt = 1 by decide) (by omega) (by omega)
              refine v_iinc (v := x105) (lv' := [(0, .ref (ad 49)), (1, .ref (ad b)), (2, .int m), (3, .int y2), (4, .int x105), (5, .int (po i1)), (6, .int 1), (7, .int r97)]) C 4 [1, 2, 3, 4, 0, 5, 6, 7] dX2_answerOf_270 rfl (ex105.symm) (by decide) rfl ?_
              refine v_goto C 5 dX2_answerOf_273 (by decide) ?_
              refine v_sub (lv' := [(0, .ref (ad 49)), (1, .ref (ad b)), (2, .int m), (3, .int y2), (4, .int x105)]) [0, 1, 2, 3, 4] rfl ?_
              have hoVn := VS_ok hm (by omega) hok hoV hFT (hRV1.symm.trans hRVn)
              exact ih8 h1 y2 (i1 + 1) x105 E104 (upd pv1 (h1 - 1) r97) K2 (updI V1 (h1 - 1) (chV ic md TT 4 (fx i1).toInt (fy i1).toInt (K1 (h1 - 1)).toInt (V1 (h1 - 1)))) (show Int32.toInt y2 = ((h1 : Nat) : Int) by have := hy2; omega) (show Int32.toInt x105 = ((i1 + 1 : Nat) : Int) by have := hx105; omega) hE104_50 (fun j g0 => ((oE104 j g0).trans (hfr5 j g0))) (by omega) (by rw [show (((h1 : Nat)) : Int) = g2 by omega]; exact hRS1) (hRVn) (by rw [show (((h1 : Nat)) : Int) = g2 by omega]; exact hoVn) (av_up hpv hp98 (fun j q1 q2 => by omega)) (by omega)
            · have hRVx : RVf ic md TT fo fx fy m.toInt (i1 + 1) = none := by rw [hRV1, VS_4n (by rw [show ((h1 : Int) - 1).toNat = h1 - 1 by omega]; exact hwi)]
              refine b_if_ne C 246 dX2_answerOf_240 (by decide) (show (0 : Int32).toInt = 0 by decide) (fun c106 => absurd c106 (by decide)) (fun c106 => ?_)
              refine v_ldc C dX2_answerOf_243 kX2_32 ?_
              exact v_ret C dX2_answerOf_245 rfl rfl ⟨(show (-2000000000 : Int32).toInt = -2000000000 by decide).trans (RU_none hRVx (by omega)).symm, ⟨_, hE4_50⟩, fun j hj => hfr5 j hj⟩
          refine v_iload_n C 3 dX2_answerOf_60 rfl rfl ?_
          refine v_iload C 6 dX2_answerOf_61 rfl ?_
          refine b_icmp_lt C 84 dX2_answerOf_63 (by decide) hy2 (show (1 : Int32).toInt = 1 by decide) (fun c107 => by exfalso; omega) (fun c107 => ?_)
          refine v_iload_n C 3 dX2_answerOf_66 rfl rfl ?_
          refine v_bipush (v := 8) C dX2_answerOf_67 (by decide) ?_
          refine b_icmp_lt C 87 dX2_answerOf_69 (by decide) hy2 (show (8 : Int32).toInt = 8 by decide) (fun c108 => ?_) (fun c108 => ?_)
          · exact hJ87
          · refine v_iload C 5 dX2_answerOf_72 rfl ?_
            refine b_if_eq C 84 dX2_answerOf_74 (by decide) hpo (fun c109 => by exfalso; omega) (fun c109 => ?_)
            refine v_iload C 5 dX2_answerOf_77 rfl ?_
            refine v_bipush (v := 10) C dX2_answerOf_79 (by decide) ?_
            refine b_icmp_ne C 87 dX2_answerOf_81 (by decide) hpo (show (10 : Int32).toInt = 10 by decide) (fun c110 => ?_) (fun c110 => by exfalso; omega)
            exact hJ87
        · rw [ho] at hFT hRV1
          obtain ⟨hg, e2, eK⟩ := FT_5 hFT
          have hgp : 0 < g2 := by omega
          rw [if_pos hgp] at htp0
          have htv : (tp i1).toInt = (K2 (g2 - 1).toNat).toInt := by rw [htp0]
          refine v_aload_n C 1 dX2_answerOf_14 rfl rfl ?_
          refine v_getr C b dX2_answerOf_15 fX2_29 (by omega) hE4_b rfl rfl ?_
          refine v_iload C 4 dX2_answerOf_18 rfl ?_
          refine v_ald (v := po i1) C (b + 1) dX2_answerOf_20 (by omega) hE4_b1 (ti_in hy3 (by omega) (by omega)) (by rw [ti_cl hy3, show Int.toNat (i1 : Int) = i1 by omega]) ?_
          refine v_istore (lv' := [(0, .ref (ad 49)), (1, .ref (ad b)), (2, .int m), (3, .int y2), (4, .int y3), (5, .int (po i1))]) C [1, 2, 3, 4, 5, 0] dX2_answerOf_21 (by decide) rfl ?_
          refine v_iload C 5 dX2_answerOf_23 rfl ?_
          refine b_if_ne C 32 dX2_answerOf_25 (by decide) hpo (fun c111 => ?_) (fun c111 => by exfalso; omega)
          refine v_iload C 5 dX2_answerOf_32 rfl ?_
          refine v_bipush (v := 8) C dX2_answerOf_34 (by decide) ?_
          refine b_icmp_eq C 53 dX2_answerOf_36 (by decide) hpo (show (8 : Int32).toInt = 8 by decide) (fun c112 => by exfalso; omega) (fun c112 => ?_)
          refine v_iload C 5 dX2_answerOf_39 rfl ?_
          refine v_bipush (v := 9) C dX2_answerOf_41 (by decide) ?_
          refine b_icmp_eq C 53 dX2_answerOf_43 (by decide) hpo (show (9 : Int32).toInt = 9 by decide) (fun c113 => by exfalso; omega) (fun c113 => ?_)
          refine v_iload C 5 dX2_answerOf_46 rfl ?_
          refine v_bipush (v := 11) C dX2_answerOf_48 (by decide) ?_
          refine b_icmp_ne C 57 dX2_answerOf_50 (by decide) hpo (show (11 : Int32).toInt = 11 by decide) (fun c114 => ?_) (fun c114 => by exfalso; omega)
          refine v_iconst (v := 1) C dX2_answerOf_57 (by decide) ?_
          refine v_istore (lv' := [(0, .ref (ad 49)), (1, .ref (ad b)), (2, .int m), (3, .int y2), (4, .int y3), (5, .int (po i1)), (6, .int 1)]) C [1, 2, 3, 4, 5, 6, 0] dX2_answerOf_58 (by decide) rfl ?_
          have hJ87 : V X G A 8 (QI X G A (98 + 9 * k) ad (fun r E' => (r.toInt = RUv ic md TT fo fx fy N m.toInt) ∧ (∃ pv2 : Nat → Int32, E' 50 = aI G 8 pv2) ∧ ∀ j, j ≠ 50 → E' j = E j)) (98 + 9 * k) ad 0 0 E4 87 [(0, .ref (ad 49)), (1, .ref (ad b)), (2, .int m), (3, .int y2), (4, .int y3), (5, .int (po i1)), (6, .int 1)] [] := by
            refine v_iload C 5 dX2_answerOf_87 rfl ?_
            refine b_if_ne C 105 dX2_answerOf_89 (by decide) hpo (fun c115 => ?_) (fun c115 => by exfalso; omega)
            refine v_iload C 5 dX2_answerOf_105 rfl ?_
            refine v_bipush (v := 10) C dX2_answerOf_107 (by decide) ?_
            refine b_icmp_ne C 132 dX2_answerOf_109 (by decide) hpo (show (10 : Int32).toInt = 10 by decide) (fun c116 => ?_) (fun c116 => by exfalso; omega)
            refine v_iload C 5 dX2_answerOf_132 rfl ?_
            refine v_bipush (v := 11) C dX2_answerOf_134 (by decide) ?_
            refine b_icmp_ne C 178 dX2_answerOf_136 (by decide) hpo (show (11 : Int32).toInt = 11 by decide) (fun c117 => ?_) (fun c117 => by exfalso; omega)
            refine v_iload C 6 dX2_answerOf_178 rfl ?_
            refine v_iconst (v := 2) C dX2_answerOf_180 (by decide) ?_
            refine b_icmp_ne C 210 dX2_answerOf_181 (by decide) (show (1 : Int32).toInt = 1 by decide) (show (2 : Int32).toInt = 2 by decide) (fun c118 => ?_) (fun c118 => absurd c118 (by decide))
            have hpv1 := hpv (h1 - 1) (by omega)
            have hw1 := ti_wi hP (hoV (h1 - 1) (by omega))
            refine v_aload_n C 0 dX2_answerOf_210 rfl rfl ?_
            refine v_aload_n C 1 dX2_answerOf_211 rfl rfl ?_
            refine v_iload C 4 dX2_answerOf_212 rfl ?_
            refine v_aload_n C 0 dX2_answerOf_214 rfl rfl ?_
            refine v_getr C 49 dX2_answerOf_215 fX2_9 (by omega) hE4_49 rfl rfl ?_
            refine v_iload_n C 3 dX2_answerOf_218 rfl rfl ?_
            refine v_iconst (v := 1) C dX2_answerOf_219 (by decide) ?_
            refine v_isub C dX2_answerOf_220 ?_
            refine v_top (fun x119 ex119 => ?_)
            have hx119 : x119.toInt = ((h1 : Int) - 1) := by rw [ex119]; exact ti_sub hy2 (show (1 : Int32).toInt = 1 by decide) (by omega) (by omega)
            refine v_ald (v := pv1 (h1 - 1)) C 50 dX2_answerOf_221 (by omega) hE4_50 (ti_in hx119 (by omega) (by omega)) (by rw [ti_cl hx119, show Int.toNat ((h1 : Int) - 1) = h1 - 1 by omega]) ?_
            have hkk := hg
            rw [show ((h1 : Int) - 1).toNat = h1 - 1 by omega] at hkk
            have hkd : ((po i1).toInt = 1 → (K1 (h1 - 1)).toInt = 0) ∧ ((po i1).toInt = 2 → (K1 (h1 - 1)).toInt = 1) ∧ ((po i1).toInt = 3 → (K1 (h1 - 1)).toInt = 2) ∧ ((po i1).toInt = 4 → (K1 (h1 - 1)).toInt = 1) ∧ ((po i1).toInt = 5 → (K1 (h1 - 1)).toInt = 0 ∨ (K1 (h1 - 1)).toInt = 1) ∧ ((po i1).toInt = 6 → ((K1 (h1 - 1)).toInt = 1 ∨ (K1 (h1 - 1)).toInt = 2) ∧ (tp i1).toInt = (K1 (h1 - 1)).toInt) ∧ ((po i1).toInt = 7 → (K1 (h1 - 1)).toInt = 2) := ⟨fun z => absurd z (by omega), fun z => absurd z (by omega), fun z => absurd z (by omega), fun z => absurd z (by omega), fun z => by omega, fun z => absurd z (by omega), fun z => absurd z (by omega)⟩
            refine v_cVp C dX2_answerOf_222 lX2_37 mX2_changed 49 (by omega) hE4_49 (by decide) rfl (g_changed l G 0 ad _ hK1 b (by omega) hE4_b hE4_b1 hE4_b2 hE4_b3 hE4_b4 (by omega) y3 (pv1 (h1 - 1)) (by have := hy3; omega) (by rw [hpo, hpx, hpy]; exact hln) (by omega) (by rw [hpv1]; exact hoV (h1 - 1) (by omega)) hkd) ⟨by decide, by decide⟩ rfl (Nat.le_of_ble_eq_true rfl) ⟨Nat.zero_le _, Nat.zero_le _⟩ (fun r120 hp121 => ?_)
            rw [hpo, ho, hpx, hpy, hpv1] at hp121
            refine v_istore (lv' := [(0, .ref (ad 49)), (1, .ref (ad b)), (2, .int m), (3, .int y2), (4, .int y3), (5, .int (po i1)), (6, .int 1), (7, .int r120)]) C [1, 2, 3, 4, 5, 6, 7, 0] dX2_answerOf_225 (by decide) rfl ?_
            refine v_aload_n C 0 dX2_answerOf_227 rfl rfl ?_
            refine v_aload_n C 1 dX2_answerOf_228 rfl rfl ?_
            refine v_getr C b dX2_answerOf_229 fX2_41 (by omega) hE4_b rfl rfl ?_
            refine v_iload C 4 dX2_answerOf_232 rfl ?_
            refine v_ald (v := tp i1) C (b + 4) dX2_answerOf_234 (by omega) hE4_b4 (ti_in hy3 (by omega) (by omega)) (by rw [ti_cl hy3, show Int.toNat (i1 : Int) = i1 by omega]) ?_
            refine v_iload C 7 dX2_answerOf_235 rfl ?_
            refine v_cVp C dX2_answerOf_237 lX2_44 mX2_isWithin 49 (by omega) hE4_49 (by decide) rfl (g_isWithin l G 0 ad _ hK1 (tp i1) r120) ⟨by decide, by decide⟩ rfl (Nat.le_of_ble_eq_true rfl) ⟨Nat.zero_le _, Nat.zero_le _⟩ (fun r122 hp123 => ?_)
            rw [htv, hp121] at hp123
            rcases hp123 with ⟨rfl, hwi⟩ | ⟨rfl, hwi⟩
            · have hRVn : RVf ic md TT fo fx fy m.toInt (i1 + 1) = some (updI V1 (h1 - 1) (chV ic md TT 5 (fx i1).toInt (fy i1).toInt (K1 (h1 - 1)).toInt (V1 (h1 - 1)))) := by rw [hRV1, VS_5 (by rw [show ((h1 : Int) - 1).toNat = h1 - 1 by omega]; exact hwi), show ((h1 : Int) - 1).toNat = h1 - 1 by omega]
              refine b_if_ne C 246 dX2_answerOf_240 (by decide) (show (1 : Int32).toInt = 1 by decide) (fun c124 => ?_) (fun c124 => absurd c124 (by decide))
              refine v_iload C 6 dX2_answerOf_246 rfl ?_
              refine v_iconst (v := 2) C dX2_answerOf_248 (by decide) ?_
              refine b_icmp_ne C 258 dX2_answerOf_249 (by decide) (show (1 : Int32).toInt = 1 by decide) (show (2 : Int32).toInt = 2 by decide) (fun c125 => ?_) (fun c125 => absurd c125 (by decide))
              refine v_iload_n C 3 dX2_answerOf_258 rfl rfl ?_
              refine v_istore_n (lv' := [(0, .ref (ad 49)), (1, .ref (ad b)), (2, .int m), (3, .int y2), (4, .int y3), (5, .int (po i1)), (6, .int 1), (7, .int r120)]) C [1, 2, 3, 0, 4, 5, 6, 7] dX2_answerOf_259 rfl (by decide) rfl ?_
              refine v_aload_n C 0 dX2_answerOf_260 rfl rfl ?_
              refine v_getr C 49 dX2_answerOf_261 fX2_9 (by omega) hE4_49 rfl rfl ?_
              refine v_iload_n C 3 dX2_answerOf_264 rfl rfl ?_
              refine v_iconst (v := 1) C dX2_answerOf_265 (by decide) ?_
              refine v_isub C dX2_answerOf_266 ?_
              refine v_top (fun x126 ex126 => ?_)
              have hx126 : x126.toInt = ((h1 : Int) - 1) := by rw [ex126]; exact ti_sub hy2 (show (1 : Int32).toInt = 1 by decide) (by omega) (by omega)
              refine v_iload C 7 dX2_answerOf_267 rfl ?_
              refine v_ast C 50 dX2_answerOf_269 (by omega) hE4_50 (ti_in hx126 (by omega) (by omega)) (fun E127 hE127_50 oE127 => ?_)
              rw [ti_cl hx126, show Int.toNat ((h1 : Int) - 1) = h1 - 1 by omega] at hE127_50
              have hE127_49 := (oE127 49 (by decide)).trans hE4_49
              have hE127_b := (oE127 b (by omega)).trans hE4_b
              have hE127_b1 := (oE127 (b + 1) (by omega)).trans hE4_b1
              have hE127_b2 := (oE127 (b + 2) (by omega)).trans hE4_b2
              have hE127_b3 := (oE127 (b + 3) (by omega)).trans hE4_b3
              have hE127_b4 := (oE127 (b + 4) (by omega)).trans hE4_b4
              obtain ⟨x128, ex128⟩ : ∃ y : Int32, y = y3 + 1 := ⟨_, rfl⟩
              have hx128 : x128.toInt = ((i1 : Int) + 1) := by rw [ex128]; exact ti_add hy3 (show (1 : Int32).toInt = 1 by decide) (by omega) (by omega)
              refine v_iinc (v := x128) (lv' := [(0, .ref (ad 49)), (1, .ref (ad b)), (2, .int m), (3, .int y2), (4, .int x128), (5, .int (po i1)), (6, .int 1), (7, .int r120)]) C 4 [1, 2, 3, 4, 0, 5, 6, 7] dX2_answerOf_270 rfl (ex128.symm) (by decide) rfl ?_
              refine v_goto C 5 dX2_answerOf_273 (by decide) ?_
              refine v_sub (lv' := [(0, .ref (ad 49)), (1, .ref (ad b)), (2, .int m), (3, .int y2), (4, .int x128)]) [0, 1, 2, 3, 4] rfl ?_
              have hoVn := VS_ok hm (by omega) hok hoV hFT (hRV1.symm.trans hRVn)
              exact ih8 h1 y2 (i1 + 1) x128 E127 (upd pv1 (h1 - 1) r120) K2 (updI V1 (h1 - 1) (chV ic md TT 5 (fx i1).toInt (fy i1).toInt (K1 (h1 - 1)).toInt (V1 (h1 - 1)))) (show Int32.toInt y2 = ((h1 : Nat) : Int) by have := hy2; omega) (show Int32.toInt x128 = ((i1 + 1 : Nat) : Int) by have := hx128; omega) hE127_50 (fun j g0 => ((oE127 j g0).trans (hfr5 j g0))) (by omega) (by rw [show (((h1 : Nat)) : Int) = g2 by omega]; exact hRS1) (hRVn) (by rw [show (((h1 : Nat)) : Int) = g2 by omega]; exact hoVn) (av_up hpv hp121 (fun j q1 q2 => by omega)) (by omega)
            · have hRVx : RVf ic md TT fo fx fy m.toInt (i1 + 1) = none := by rw [hRV1, VS_5n (by rw [show ((h1 : Int) - 1).toNat = h1 - 1 by omega]; exact hwi)]
              refine b_if_ne C 246 dX2_answerOf_240 (by decide) (show (0 : Int32).toInt = 0 by decide) (fun c129 => absurd c129 (by decide)) (fun c129 => ?_)
              refine v_ldc C dX2_answerOf_243 kX2_32 ?_
              exact v_ret C dX2_answerOf_245 rfl rfl ⟨(show (-2000000000 : Int32).toInt = -2000000000 by decide).trans (RU_none hRVx (by omega)).symm, ⟨_, hE4_50⟩, fun j hj => hfr5 j hj⟩
          refine v_iload_n C 3 dX2_answerOf_60 rfl rfl ?_
          refine v_iload C 6 dX2_answerOf_61 rfl ?_
          refine b_icmp_lt C 84 dX2_answerOf_63 (by decide) hy2 (show (1 : Int32).toInt = 1 by decide) (fun c130 => by exfalso; omega) (fun c130 => ?_)
          refine v_iload_n C 3 dX2_answerOf_66 rfl rfl ?_
          refine v_bipush (v := 8) C dX2_answerOf_67 (by decide) ?_
          refine b_icmp_lt C 87 dX2_answerOf_69 (by decide) hy2 (show (8 : Int32).toInt = 8 by decide) (fun c131 => ?_) (fun c131 => ?_)
          · exact hJ87
          · refine v_iload C 5 dX2_answerOf_72 rfl ?_
            refine b_if_eq C 84 dX2_answerOf_74 (by decide) hpo (fun c132 => by exfalso; omega) (fun c132 => ?_)
            refine v_iload C 5 dX2_answerOf_77 rfl ?_
            refine v_bipush (v := 10) C dX2_answerOf_79 (by decide) ?_
            refine b_icmp_ne C 87 dX2_answerOf_81 (by decide) hpo (show (10 : Int32).toInt = 10 by decide) (fun c133 => ?_) (fun c133 => by exfalso; omega)
            exact hJ87
        · rw [ho] at hFT hRV1
          obtain ⟨hg, e2, eK⟩ := FT_6 hFT
          have hgp : 0 < g2 := by omega
          rw [if_pos hgp] at htp0
          have htv : (tp i1).toInt = (K2 (g2 - 1).toNat).toInt := by rw [htp0]
          refine v_aload_n C 1 dX2_answerOf_14 rfl rfl ?_
          refine v_getr C b dX2_answerOf_15 fX2_29 (by omega) hE4_b rfl rfl ?_
          refine v_iload C 4 dX2_answerOf_18 rfl ?_
          refine v_ald (v := po i1) C (b + 1) dX2_answerOf_20 (by omega) hE4_b1 (ti_in hy3 (by omega) (by omega)) (by rw [ti_cl hy3, show Int.toNat (i1 : Int) = i1 by omega]) ?_
          refine v_istore (lv' := [(0, .ref (ad 49)), (1, .ref (ad b)), (2, .int m), (3, .int y2), (4, .int y3), (5, .int (po i1))]) C [1, 2, 3, 4, 5, 0] dX2_answerOf_21 (by decide) rfl ?_
          refine v_iload C 5 dX2_answerOf_23 rfl ?_
          refine b_if_ne C 32 dX2_answerOf_25 (by decide) hpo (fun c134 => ?_) (fun c134 => by exfalso; omega)
          refine v_iload C 5 dX2_answerOf_32 rfl ?_
          refine v_bipush (v := 8) C dX2_answerOf_34 (by decide) ?_
          refine b_icmp_eq C 53 dX2_answerOf_36 (by decide) hpo (show (8 : Int32).toInt = 8 by decide) (fun c135 => by exfalso; omega) (fun c135 => ?_)
          refine v_iload C 5 dX2_answerOf_39 rfl ?_
          refine v_bipush (v := 9) C dX2_answerOf_41 (by decide) ?_
          refine b_icmp_eq C 53 dX2_answerOf_43 (by decide) hpo (show (9 : Int32).toInt = 9 by decide) (fun c136 => by exfalso; omega) (fun c136 => ?_)
          refine v_iload C 5 dX2_answerOf_46 rfl ?_
          refine v_bipush (v := 11) C dX2_answerOf_48 (by decide) ?_
          refine b_icmp_ne C 57 dX2_answerOf_50 (by decide) hpo (show (11 : Int32).toInt = 11 by decide) (fun c137 => ?_) (fun c137 => by exfalso; omega)
          refine v_iconst (v := 1) C dX2_answerOf_57 (by decide) ?_
          refine v_istore (lv' := [(0, .ref (ad 49)), (1, .ref (ad b)), (2, .int m), (3, .int y2), (4, .int y3), (5, .int (po i1)), (6, .int 1)]) C [1, 2, 3, 4, 5, 6, 0] dX2_answerOf_58 (by decide) rfl ?_
          have hJ87 : V X G A 8 (QI X G A (98 + 9 * k) ad (fun r E' => (r.toInt = RUv ic md TT fo fx fy N m.toInt) ∧ (∃ pv2 : Nat → Int32, E' 50 = aI G 8 pv2) ∧ ∀ j, j ≠ 50 → E' j = E j)) (98 + 9 * k) ad 0 0 E4 87 [(0, .ref (ad 49)), (1, .ref (ad b)), (2, .int m), (3, .int y2), (4, .int y3), (5, .int (po i1)), (6, .int 1)] [] := by
            refine v_iload C 5 dX2_answerOf_87 rfl ?_
            refine b_if_ne C 105 dX2_answerOf_89 (by decide) hpo (fun c138 => ?_) (fun c138 => by exfalso; omega)
            refine v_iload C 5 dX2_answerOf_105 rfl ?_
            refine v_bipush (v := 10) C dX2_answerOf_107 (by decide) ?_
            refine b_icmp_ne C 132 dX2_answerOf_109 (by decide) hpo (show (10 : Int32).toInt = 10 by decide) (fun c139 => ?_) (fun c139 => by exfalso; omega)
            refine v_iload C 5 dX2_answerOf_132 rfl ?_
            refine v_bipush (v := 11) C dX2_answerOf_134 (by decide) ?_
            refine b_icmp_ne C 178 dX2_answerOf_136 (by decide) hpo (show (11 : Int32).toInt = 11 by decide) (fun c140 => ?_) (fun c140 => by exfalso; omega)
            refine v_iload C 6 dX2_answerOf_178 rfl ?_
            refine v_iconst (v := 2) C dX2_answerOf_180 (by decide) ?_
            refine b_icmp_ne C 210 dX2_answerOf_181 (by decide) (show (1 : Int32).toInt = 1 by decide) (show (2 : Int32).toInt = 2 by decide) (fun c141 => ?_) (fun c141 => absurd c141 (by decide))
            have hpv1 := hpv (h1 - 1) (by omega)
            have hw1 := ti_wi hP (hoV (h1 - 1) (by omega))
            refine v_aload_n C 0 dX2_answerOf_210 rfl rfl ?_
            refine v_aload_n C 1 dX2_answerOf_211 rfl rfl ?_
            refine v_iload C 4 dX2_answerOf_212 rfl ?_
            refine v_aload_n C 0 dX2_answerOf_214 rfl rfl ?_
            refine v_getr C 49 dX2_answerOf_215 fX2_9 (by omega) hE4_49 rfl rfl ?_
            refine v_iload_n C 3 dX2_answerOf_218 rfl rfl ?_
            refine v_iconst (v := 1) C dX2_answerOf_219 (by decide) ?_
            refine v_isub C dX2_answerOf_220 ?_
            refine v_top (fun x142 ex142 => ?_)
            have hx142 : x142.toInt = ((h1 : Int) - 1) := by rw [ex142]; exact ti_sub hy2 (show (1 : Int32).toInt = 1 by decide) (by omega) (by omega)
            refine v_ald (v := pv1 (h1 - 1)) C 50 dX2_answerOf_221 (by omega) hE4_50 (ti_in hx142 (by omega) (by omega)) (by rw [ti_cl hx142, show Int.toNat ((h1 : Int) - 1) = h1 - 1 by omega]) ?_
            have hkk := hg
            rw [show ((h1 : Int) - 1).toNat = h1 - 1 by omega] at hkk
            have ht6 : (tp i1).toInt = (K1 (h1 - 1)).toInt := by rw [htv, eK, e2, show ((h1 : Int) - 1).toNat = h1 - 1 by omega]
            have hkd : ((po i1).toInt = 1 → (K1 (h1 - 1)).toInt = 0) ∧ ((po i1).toInt = 2 → (K1 (h1 - 1)).toInt = 1) ∧ ((po i1).toInt = 3 → (K1 (h1 - 1)).toInt = 2) ∧ ((po i1).toInt = 4 → (K1 (h1 - 1)).toInt = 1) ∧ ((po i1).toInt = 5 → (K1 (h1 - 1)).toInt = 0 ∨ (K1 (h1 - 1)).toInt = 1) ∧ ((po i1).toInt = 6 → ((K1 (h1 - 1)).toInt = 1 ∨ (K1 (h1 - 1)).toInt = 2) ∧ (tp i1).toInt = (K1 (h1 - 1)).toInt) ∧ ((po i1).toInt = 7 → (K1 (h1 - 1)).toInt = 2) := ⟨fun z => absurd z (by omega), fun z => absurd z (by omega), fun z => absurd z (by omega), fun z => absurd z (by omega), fun z => absurd z (by omega), fun z => ⟨by omega, ht6⟩, fun z => absurd z (by omega)⟩
            refine v_cVp C dX2_answerOf_222 lX2_37 mX2_changed 49 (by omega) hE4_49 (by decide) rfl (g_changed l G 0 ad _ hK1 b (by omega) hE4_b hE4_b1 hE4_b2 hE4_b3 hE4_b4 (by omega) y3 (pv1 (h1 - 1)) (by have := hy3; omega) (by rw [hpo, hpx, hpy]; exact hln) (by omega) (by rw [hpv1]; exact hoV (h1 - 1) (by omega)) hkd) ⟨by decide, by decide⟩ rfl (Nat.le_of_ble_eq_true rfl) ⟨Nat.zero_le _, Nat.zero_le _⟩ (fun r143 hp144 => ?_)
            rw [hpo, ho, hpx, hpy, hpv1] at hp144
            refine v_istore (lv' := [(0, .ref (ad 49)), (1, .ref (ad b)), (2, .int m), (3, .int y2), (4, .int y3), (5, .int (po i1)), (6, .int 1), (7, .int r143)]) C [1, 2, 3, 4, 5, 6, 7, 0] dX2_answerOf_225 (by decide) rfl ?_
            refine v_aload_n C 0 dX2_answerOf_227 rfl rfl ?_
            refine v_aload_n C 1 dX2_answerOf_228 rfl rfl ?_
            refine v_getr C b dX2_answerOf_229 fX2_41 (by omega) hE4_b rfl rfl ?_
            refine v_iload C 4 dX2_answerOf_232 rfl ?_
            refine v_ald (v := tp i1) C (b + 4) dX2_answerOf_234 (by omega) hE4_b4 (ti_in hy3 (by omega) (by omega)) (by rw [ti_cl hy3, show Int.toNat (i1 : Int) = i1 by omega]) ?_
            refine v_iload C 7 dX2_answerOf_235 rfl ?_
            refine v_cVp C dX2_answerOf_237 lX2_44 mX2_isWithin 49 (by omega) hE4_49 (by decide) rfl (g_isWithin l G 0 ad _ hK1 (tp i1) r143) ⟨by decide, by decide⟩ rfl (Nat.le_of_ble_eq_true rfl) ⟨Nat.zero_le _, Nat.zero_le _⟩ (fun r145 hp146 => ?_)
            rw [htv, hp144] at hp146
            rcases hp146 with ⟨rfl, hwi⟩ | ⟨rfl, hwi⟩
            · have hRVn : RVf ic md TT fo fx fy m.toInt (i1 + 1) = some (updI V1 (h1 - 1) (chV ic md TT 6 (fx i1).toInt (fy i1).toInt (K1 (h1 - 1)).toInt (V1 (h1 - 1)))) := by rw [hRV1, VS_6 (by rw [show ((h1 : Int) - 1).toNat = h1 - 1 by omega]; exact hwi), show ((h1 : Int) - 1).toNat = h1 - 1 by omega]
              refine b_if_ne C 246 dX2_answerOf_240 (by decide) (show (1 : Int32).toInt = 1 by decide) (fun c147 => ?_) (fun c147 => absurd c147 (by decide))
              refine v_iload C 6 dX2_answerOf_246 rfl ?_
              refine v_iconst (v := 2) C dX2_answerOf_248 (by decide) ?_
              refine b_icmp_ne C 258 dX2_answerOf_249 (by decide) (show (1 : Int32).toInt = 1 by decide) (show (2 : Int32).toInt = 2 by decide) (fun c148 => ?_) (fun c148 => absurd c148 (by decide))
              refine v_iload_n C 3 dX2_answerOf_258 rfl rfl ?_
              refine v_istore_n (lv' := [(0, .ref (ad 49)), (1, .ref (ad b)), (2, .int m), (3, .int y2), (4, .int y3), (5, .int (po i1)), (6, .int 1), (7, .int r143)]) C [1, 2, 3, 0, 4, 5, 6, 7] dX2_answerOf_259 rfl (by decide) rfl ?_
              refine v_aload_n C 0 dX2_answerOf_260 rfl rfl ?_
              refine v_getr C 49 dX2_answerOf_261 fX2_9 (by omega) hE4_49 rfl rfl ?_
              refine v_iload_n C 3 dX2_answerOf_264 rfl rfl ?_
              refine v_iconst (v := 1) C dX2_answerOf_265 (by decide) ?_
              refine v_isub C dX2_answerOf_266 ?_
              refine v_top (fun x149 ex149 => ?_)
              have hx149 : x149.toInt = ((h1 : Int) - 1) := by rw [ex149]; exact ti_sub hy2 (show (1 : Int32).toInt = 1 by decide) (by omega) (by omega)
              refine v_iload C 7 dX2_answerOf_267 rfl ?_
              refine v_ast C 50 dX2_answerOf_269 (by omega) hE4_50 (ti_in hx149 (by omega) (by omega)) (fun E150 hE150_50 oE150 => ?_)
              rw [ti_cl hx149, show Int.toNat ((h1 : Int) - 1) = h1 - 1 by omega] at hE150_50
              have hE150_49 := (oE150 49 (by decide)).trans hE4_49
              have hE150_b := (oE150 b (by omega)).trans hE4_b
              have hE150_b1 := (oE150 (b + 1) (by omega)).trans hE4_b1
              have hE150_b2 := (oE150 (b + 2) (by omega)).trans hE4_b2
              have hE150_b3 := (oE150 (b + 3) (by omega)).trans hE4_b3
              have hE150_b4 := (oE150 (b + 4) (by omega)).trans hE4_b4
              obtain ⟨x151, ex151⟩ : ∃ y : Int32, y = y3 + 1 := ⟨_, rfl⟩
              have hx151 : x151.toInt = ((i1 : Int) + 1) := by rw [ex151]; exact ti_add hy3 (show (1 : Int32).toInt = 1 by decide) (by omega) (by omega)
              refine v_iinc (v := x151) (lv' := [(0, .ref (ad 49)), (1, .ref (ad b)), (2, .int m), (3, .int y2), (4, .int x151), (5, .int (po i1)), (6, .int 1), (7, .int r143)]) C 4 [1, 2, 3, 4, 0, 5, 6, 7] dX2_answerOf_270 rfl (ex151.symm) (by decide) rfl ?_
              refine v_goto C 5 dX2_answerOf_273 (by decide) ?_
              refine v_sub (lv' := [(0, .ref (ad 49)), (1, .ref (ad b)), (2, .int m), (3, .int y2), (4, .int x151)]) [0, 1, 2, 3, 4] rfl ?_
              have hoVn := VS_ok hm (by omega) hok hoV hFT (hRV1.symm.trans hRVn)
              exact ih8 h1 y2 (i1 + 1) x151 E150 (upd pv1 (h1 - 1) r143) K2 (updI V1 (h1 - 1) (chV ic md TT 6 (fx i1).toInt (fy i1).toInt (K1 (h1 - 1)).toInt (V1 (h1 - 1)))) (show Int32.toInt y2 = ((h1 : Nat) : Int) by have := hy2; omega) (show Int32.toInt x151 = ((i1 + 1 : Nat) : Int) by have := hx151; omega) hE150_50 (fun j g0 => ((oE150 j g0).trans (hfr5 j g0))) (by omega) (by rw [show (((h1 : Nat)) : Int) = g2 by omega]; exact hRS1) (hRVn) (by rw [show (((h1 : Nat)) : Int) = g2 by omega]; exact hoVn) (av_up hpv hp144 (fun j q1 q2 => by omega)) (by omega)
            · have hRVx : RVf ic md TT fo fx fy m.toInt (i1 + 1) = none := by rw [hRV1, VS_6n (by rw [show ((h1 : Int) - 1).toNat = h1 - 1 by omega]; exact hwi)]
              refine b_if_ne C 246 dX2_answerOf_240 (by decide) (show (0 : Int32).toInt = 0 by decide) (fun c152 => absurd c152 (by decide)) (fun c152 => ?_)
              refine v_ldc C dX2_answerOf_243 kX2_32 ?_
              exact v_ret C dX2_answerOf_245 rfl rfl ⟨(show (-2000000000 : Int32).toInt = -2000000000 by decide).trans (RU_none hRVx (by omega)).symm, ⟨_, hE4_50⟩, fun j hj => hfr5 j hj⟩
          refine v_iload_n C 3 dX2_answerOf_60 rfl rfl ?_
          refine v_iload C 6 dX2_answerOf_61 rfl ?_
          refine b_icmp_lt C 84 dX2_answerOf_63 (by decide) hy2 (show (1 : Int32).toInt = 1 by decide) (fun c153 => by exfalso; omega) (fun c153 => ?_)
          refine v_iload_n C 3 dX2_answerOf_66 rfl rfl ?_
          refine v_bipush (v := 8) C dX2_answerOf_67 (by decide) ?_
          refine b_icmp_lt C 87 dX2_answerOf_69 (by decide) hy2 (show (8 : Int32).toInt = 8 by decide) (fun c154 => ?_) (fun c154 => ?_)
          · exact hJ87
          · refine v_iload C 5 dX2_answerOf_72 rfl ?_
            refine b_if_eq C 84 dX2_answerOf_74 (by decide) hpo (fun c155 => by exfalso; omega) (fun c155 => ?_)
            refine v_iload C 5 dX2_answerOf_77 rfl ?_
            refine v_bipush (v := 10) C dX2_answerOf_79 (by decide) ?_
            refine b_icmp_ne C 87 dX2_answerOf_81 (by decide) hpo (show (10 : Int32).toInt = 10 by decide) (fun c156 => ?_) (fun c156 => by exfalso; omega)
            exact hJ87
        · rw [ho] at hFT hRV1
          obtain ⟨hg, e2, eK⟩ := FT_7 hFT
          have hgp : 0 < g2 := by omega
          rw [if_pos hgp] at htp0
          have htv : (tp i1).toInt = (K2 (g2 - 1).toNat).toInt := by rw [htp0]
          refine v_aload_n C 1 dX2_answerOf_14 rfl rfl ?_
          refine v_getr C b dX2_answerOf_15 fX2_29 (by omega) hE4_b rfl rfl ?_
          refine v_iload C 4 dX2_answerOf_18 rfl ?_
          refine v_ald (v := po i1) C (b + 1) dX2_answerOf_20 (by omega) hE4_b1 (ti_in hy3 (by omega) (by omega)) (by rw [ti_cl hy3, show Int.toNat (i1 : Int) = i1 by omega]) ?_
          refine v_istore (lv' := [(0, .ref (ad 49)), (1, .ref (ad b)), (2, .int m), (3, .int y2), (4, .int y3), (5, .int (po i1))]) C [1, 2, 3, 4, 5, 0] dX2_answerOf_21 (by decide) rfl ?_
          refine v_iload C 5 dX2_answerOf_23 rfl ?_
          refine b_if_ne C 32 dX2_answerOf_25 (by decide) hpo (fun c157 => ?_) (fun c157 => by exfalso; omega)
          refine v_iload C 5 dX2_answerOf_32 rfl ?_
          refine v_bipush (v := 8) C dX2_answerOf_34 (by decide) ?_
          refine b_icmp_eq C 53 dX2_answerOf_36 (by decide) hpo (show (8 : Int32).toInt = 8 by decide) (fun c158 => by exfalso; omega) (fun c158 => ?_)
          refine v_iload C 5 dX2_answerOf_39 rfl ?_
          refine v_bipush (v := 9) C dX2_answerOf_41 (by decide) ?_
          refine b_icmp_eq C 53 dX2_answerOf_43 (by decide) hpo (show (9 : Int32).toInt = 9 by decide) (fun c159 => by exfalso; omega) (fun c159 => ?_)
          refine v_iload C 5 dX2_answerOf_46 rfl ?_
          refine v_bipush (v := 11) C dX2_answerOf_48 (by decide) ?_
          refine b_icmp_ne C 57 dX2_answerOf_50 (by decide) hpo (show (11 : Int32).toInt = 11 by decide) (fun c160 => ?_) (fun c160 => by exfalso; omega)
          refine v_iconst (v := 1) C dX2_answerOf_57 (by decide) ?_
          refine v_istore (lv' := [(0, .ref (ad 49)), (1, .ref (ad b)), (2, .int m), (3, .int y2), (4, .int y3), (5, .int (po i1)), (6, .int 1)]) C [1, 2, 3, 4, 5, 6, 0] dX2_answerOf_58 (by decide) rfl ?_
          have hJ87 : V X G A 8 (QI X G A (98 + 9 * k) ad (fun r E' => (r.toInt = RUv ic md TT fo fx fy N m.toInt) ∧ (∃ pv2 : Nat → Int32, E' 50 = aI G 8 pv2) ∧ ∀ j, j ≠ 50 → E' j = E j)) (98 + 9 * k) ad 0 0 E4 87 [(0, .ref (ad 49)), (1, .ref (ad b)), (2, .int m), (3, .int y2), (4, .int y3), (5, .int (po i1)), (6, .int 1)] [] := by
            refine v_iload C 5 dX2_answerOf_87 rfl ?_
            refine b_if_ne C 105 dX2_answerOf_89 (by decide) hpo (fun c161 => ?_) (fun c161 => by exfalso; omega)
            refine v_iload C 5 dX2_answerOf_105 rfl ?_
            refine v_bipush (v := 10) C dX2_answerOf_107 (by decide) ?_
            refine b_icmp_ne C 132 dX2_answerOf_109 (by decide) hpo (show (10 : Int32).toInt = 10 by decide) (fun c162 => ?_) (fun c162 => by exfalso; omega)
            refine v_iload C 5 dX2_answerOf_132 rfl ?_
            refine v_bipush (v := 11) C dX2_answerOf_134 (by decide) ?_
            refine b_icmp_ne C 178 dX2_answerOf_136 (by decide) hpo (show (11 : Int32).toInt = 11 by decide) (fun c163 => ?_) (fun c163 => by exfalso; omega)
            refine v_iload C 6 dX2_answerOf_178 rfl ?_
            refine v_iconst (v := 2) C dX2_answerOf_180 (by decide) ?_
            refine b_icmp_ne C 210 dX2_answerOf_181 (by decide) (show (1 : Int32).toInt = 1 by decide) (show (2 : Int32).toInt = 2 by decide) (fun c164 => ?_) (fun c164 => absurd c164 (by decide))
            have hpv1 := hpv (h1 - 1) (by omega)
            have hw1 := ti_wi hP (hoV (h1 - 1) (by omega))
            refine v_aload_n C 0 dX2_answerOf_210 rfl rfl ?_
            refine v_aload_n C 1 dX2_answerOf_211 rfl rfl ?_
            refine v_iload C 4 dX2_answerOf_212 rfl ?_
            refine v_aload_n C 0 dX2_answerOf_214 rfl rfl ?_
            refine v_getr C 49 dX2_answerOf_215 fX2_9 (by omega) hE4_49 rfl rfl ?_
            refine v_iload_n C 3 dX2_answerOf_218 rfl rfl ?_
            refine v_iconst (v := 1) C dX2_answerOf_219 (by decide) ?_
            refine v_isub C dX2_answerOf_220 ?_
            refine v_top (fun x165 ex165 => ?_)
            have hx165 : x165.toInt = ((h1 : Int) - 1) := by rw [ex165]; exact ti_sub hy2 (show (1 : Int32).toInt = 1 by decide) (by omega) (by omega)
            refine v_ald (v := pv1 (h1 - 1)) C 50 dX2_answerOf_221 (by omega) hE4_50 (ti_in hx165 (by omega) (by omega)) (by rw [ti_cl hx165, show Int.toNat ((h1 : Int) - 1) = h1 - 1 by omega]) ?_
            have hkk := hg
            rw [show ((h1 : Int) - 1).toNat = h1 - 1 by omega] at hkk
            have hkd : ((po i1).toInt = 1 → (K1 (h1 - 1)).toInt = 0) ∧ ((po i1).toInt = 2 → (K1 (h1 - 1)).toInt = 1) ∧ ((po i1).toInt = 3 → (K1 (h1 - 1)).toInt = 2) ∧ ((po i1).toInt = 4 → (K1 (h1 - 1)).toInt = 1) ∧ ((po i1).toInt = 5 → (K1 (h1 - 1)).toInt = 0 ∨ (K1 (h1 - 1)).toInt = 1) ∧ ((po i1).toInt = 6 → ((K1 (h1 - 1)).toInt = 1 ∨ (K1 (h1 - 1)).toInt = 2) ∧ (tp i1).toInt = (K1 (h1 - 1)).toInt) ∧ ((po i1).toInt = 7 → (K1 (h1 - 1)).toInt = 2) := ⟨fun z => absurd z (by omega), fun z => absurd z (by omega), fun z => absurd z (by omega), fun z => absurd z (by omega), fun z => absurd z (by omega), fun z => absurd z (by omega), fun z => by omega⟩
            refine v_cVp C dX2_answerOf_222 lX2_37 mX2_changed 49 (by omega) hE4_49 (by decide) rfl (g_changed l G 0 ad _ hK1 b (by omega) hE4_b hE4_b1 hE4_b2 hE4_b3 hE4_b4 (by omega) y3 (pv1 (h1 - 1)) (by have := hy3; omega) (by rw [hpo, hpx, hpy]; exact hln) (by omega) (by rw [hpv1]; exact hoV (h1 - 1) (by omega)) hkd) ⟨by decide, by decide⟩ rfl (Nat.le_of_ble_eq_true rfl) ⟨Nat.zero_le _, Nat.zero_le _⟩ (fun r166 hp167 => ?_)
            rw [hpo, ho, hpx, hpy, hpv1] at hp167
            refine v_istore (lv' := [(0, .ref (ad 49)), (1, .ref (ad b)), (2, .int m), (3, .int y2), (4, .int y3), (5, .int (po i1)), (6, .int 1), (7, .int r166)]) C [1, 2, 3, 4, 5, 6, 7, 0] dX2_answerOf_225 (by decide) rfl ?_
            refine v_aload_n C 0 dX2_answerOf_227 rfl rfl ?_
            refine v_aload_n C 1 dX2_answerOf_228 rfl rfl ?_
            refine v_getr C b dX2_answerOf_229 fX2_41 (by omega) hE4_b rfl rfl ?_
            refine v_iload C 4 dX2_answerOf_232 rfl ?_
            refine v_ald (v := tp i1) C (b + 4) dX2_answerOf_234 (by omega) hE4_b4 (ti_in hy3 (by omega) (by omega)) (by rw [ti_cl hy3, show Int.toNat (i1 : Int) = i1 by omega]) ?_
            refine v_iload C 7 dX2_answerOf_235 rfl ?_
            refine v_cVp C dX2_answerOf_237 lX2_44 mX2_isWithin 49 (by omega) hE4_49 (by decide) rfl (g_isWithin l G 0 ad _ hK1 (tp i1) r166) ⟨by decide, by decide⟩ rfl (Nat.le_of_ble_eq_true rfl) ⟨Nat.zero_le _, Nat.zero_le _⟩ (fun r168 hp169 => ?_)
            rw [htv, hp167] at hp169
            rcases hp169 with ⟨rfl, hwi⟩ | ⟨rfl, hwi⟩
            · have hRVn : RVf ic md TT fo fx fy m.toInt (i1 + 1) = some (updI V1 (h1 - 1) (chV ic md TT 7 (fx i1).toInt (fy i1).toInt (K1 (h1 - 1)).toInt (V1 (h1 - 1)))) := by rw [hRV1, VS_7 (by rw [show ((h1 : Int) - 1).toNat = h1 - 1 by omega]; exact hwi), show ((h1 : Int) - 1).toNat = h1 - 1 by omega]
              refine b_if_ne C 246 dX2_answerOf_240 (by decide) (show (1 : Int32).toInt = 1 by decide) (fun c170 => ?_) (fun c170 => absurd c170 (by decide))
              refine v_iload C 6 dX2_answerOf_246 rfl ?_
              refine v_iconst (v := 2) C dX2_answerOf_248 (by decide) ?_
              refine b_icmp_ne C 258 dX2_answerOf_249 (by decide) (show (1 : Int32).toInt = 1 by decide) (show (2 : Int32).toInt = 2 by decide) (fun c171 => ?_) (fun c171 => absurd c171 (by decide))
              refine v_iload_n C 3 dX2_answerOf_258 rfl rfl ?_
              refine v_istore_n (lv' := [(0, .ref (ad 49)), (1, .ref (ad b)), (2, .int m), (3, .int y2), (4, .int y3), (5, .int (po i1)), (6, .int 1), (7, .int r166)]) C [1, 2, 3, 0, 4, 5, 6, 7] dX2_answerOf_259 rfl (by decide) rfl ?_
              refine v_aload_n C 0 dX2_answerOf_260 rfl rfl ?_
              refine v_getr C 49 dX2_answerOf_261 fX2_9 (by omega) hE4_49 rfl rfl ?_
              refine v_iload_n C 3 dX2_answerOf_264 rfl rfl ?_
              refine v_iconst (v := 1) C dX2_answerOf_265 (by decide) ?_
              refine v_isub C dX2_answerOf_266 ?_
              refine v_top (fun x172 ex172 => ?_)
              have hx172 : x172.toInt = ((h1 : Int) - 1) := by rw [ex172]; exact ti_sub hy2 (show (1 : Int32).toInt = 1 by decide) (by omega) (by omega)
              refine v_iload C 7 dX2_answerOf_267 rfl ?_
              refine v_ast C 50 dX2_answerOf_269 (by omega) hE4_50 (ti_in hx172 (by omega) (by omega)) (fun E173 hE173_50 oE173 => ?_)
              rw [ti_cl hx172, show Int.toNat ((h1 : Int) - 1) = h1 - 1 by omega] at hE173_50
              have hE173_49 := (oE173 49 (by decide)).trans hE4_49
              have hE173_b := (oE173 b (by omega)).trans hE4_b
              have hE173_b1 := (oE173 (b + 1) (by omega)).trans hE4_b1
              have hE173_b2 := (oE173 (b + 2) (by omega)).trans hE4_b2
              have hE173_b3 := (oE173 (b + 3) (by omega)).trans hE4_b3
              have hE173_b4 := (oE173 (b + 4) (by omega)).trans hE4_b4
              obtain ⟨x174, ex174⟩ : ∃ y : Int32, y = y3 + 1 := ⟨_, rfl⟩
              have hx174 : x174.toInt = ((i1 : Int) + 1) := by rw [ex174]; exact ti_add hy3 (show (1 : Int32).toInt = 1 by decide) (by omega) (by omega)
              refine v_iinc (v := x174) (lv' := [(0, .ref (ad 49)), (1, .ref (ad b)), (2, .int m), (3, .int y2), (4, .int x174), (5, .int (po i1)), (6, .int 1), (7, .int r166)]) C 4 [1, 2, 3, 4, 0, 5, 6, 7] dX2_answerOf_270 rfl (ex174.symm) (by decide) rfl ?_
              refine v_goto C 5 dX2_answerOf_273 (by decide) ?_
              refine v_sub (lv' := [(0, .ref (ad 49)), (1, .ref (ad b)), (2, .int m), (3, .int y2), (4, .int x174)]) [0, 1, 2, 3, 4] rfl ?_
              have hoVn := VS_ok hm (by omega) hok hoV hFT (hRV1.symm.trans hRVn)
              exact ih8 h1 y2 (i1 + 1) x174 E173 (upd pv1 (h1 - 1) r166) K2 (updI V1 (h1 - 1) (chV ic md TT 7 (fx i1).toInt (fy i1).toInt (K1 (h1 - 1)).toInt (V1 (h1 - 1)))) (show Int32.toInt y2 = ((h1 : Nat) : Int) by have := hy2; omega) (show Int32.toInt x174 = ((i1 + 1 : Nat) : Int) by have := hx174; omega) hE173_50 (fun j g0 => ((oE173 j g0).trans (hfr5 j g0))) (by omega) (by rw [show (((h1 : Nat)) : Int) = g2 by omega]; exact hRS1) (hRVn) (by rw [show (((h1 : Nat)) : Int) = g2 by omega]; exact hoVn) (av_up hpv hp167 (fun j q1 q2 => by omega)) (by omega)
            · have hRVx : RVf ic md TT fo fx fy m.toInt (i1 + 1) = none := by rw [hRV1, VS_7n (by rw [show ((h1 : Int) - 1).toNat = h1 - 1 by omega]; exact hwi)]
              refine b_if_ne C 246 dX2_answerOf_240 (by decide) (show (0 : Int32).toInt = 0 by decide) (fun c175 => absurd c175 (by decide)) (fun c175 => ?_)
              refine v_ldc C dX2_answerOf_243 kX2_32 ?_
              exact v_ret C dX2_answerOf_245 rfl rfl ⟨(show (-2000000000 : Int32).toInt = -2000000000 by decide).trans (RU_none hRVx (by omega)).symm, ⟨_, hE4_50⟩, fun j hj => hfr5 j hj⟩
          refine v_iload_n C 3 dX2_answerOf_60 rfl rfl ?_
          refine v_iload C 6 dX2_answerOf_61 rfl ?_
          refine b_icmp_lt C 84 dX2_answerOf_63 (by decide) hy2 (show (1 : Int32).toInt = 1 by decide) (fun c176 => by exfalso; omega) (fun c176 => ?_)
          refine v_iload_n C 3 dX2_answerOf_66 rfl rfl ?_
          refine v_bipush (v := 8) C dX2_answerOf_67 (by decide) ?_
          refine b_icmp_lt C 87 dX2_answerOf_69 (by decide) hy2 (show (8 : Int32).toInt = 8 by decide) (fun c177 => ?_) (fun c177 => ?_)
          · exact hJ87
          · refine v_iload C 5 dX2_answerOf_72 rfl ?_
            refine b_if_eq C 84 dX2_answerOf_74 (by decide) hpo (fun c178 => by exfalso; omega) (fun c178 => ?_)
            refine v_iload C 5 dX2_answerOf_77 rfl ?_
            refine v_bipush (v := 10) C dX2_answerOf_79 (by decide) ?_
            refine b_icmp_ne C 87 dX2_answerOf_81 (by decide) hpo (show (10 : Int32).toInt = 10 by decide) (fun c179 => ?_) (fun c179 => by exfalso; omega)
            exact hJ87
        · rw [ho] at hFT hRV1
          obtain ⟨hg, e2, eK⟩ := FT_8 hFT
          have hgp : 0 < g2 := by omega
          rw [if_pos hgp] at htp0
          have htv : (tp i1).toInt = (K2 (g2 - 1).toNat).toInt := by rw [htp0]
          refine v_aload_n C 1 dX2_answerOf_14 rfl rfl ?_
          refine v_getr C b dX2_answerOf_15 fX2_29 (by omega) hE4_b rfl rfl ?_
          refine v_iload C 4 dX2_answerOf_18 rfl ?_
          refine v_ald (v := po i1) C (b + 1) dX2_answerOf_20 (by omega) hE4_b1 (ti_in hy3 (by omega) (by omega)) (by rw [ti_cl hy3, show Int.toNat (i1 : Int) = i1 by omega]) ?_
          refine v_istore (lv' := [(0, .ref (ad 49)), (1, .ref (ad b)), (2, .int m), (3, .int y2), (4, .int y3), (5, .int (po i1))]) C [1, 2, 3, 4, 5, 0] dX2_answerOf_21 (by decide) rfl ?_
          refine v_iload C 5 dX2_answerOf_23 rfl ?_
          refine b_if_ne C 32 dX2_answerOf_25 (by decide) hpo (fun c180 => ?_) (fun c180 => by exfalso; omega)
          refine v_iload C 5 dX2_answerOf_32 rfl ?_
          refine v_bipush (v := 8) C dX2_answerOf_34 (by decide) ?_
          refine b_icmp_eq C 53 dX2_answerOf_36 (by decide) hpo (show (8 : Int32).toInt = 8 by decide) (fun c181 => ?_) (fun c181 => by exfalso; omega)
          refine v_iconst (v := 2) C dX2_answerOf_53 (by decide) ?_
          refine v_goto C 58 dX2_answerOf_54 (by decide) ?_
          refine v_istore (lv' := [(0, .ref (ad 49)), (1, .ref (ad b)), (2, .int m), (3, .int y2), (4, .int y3), (5, .int (po i1)), (6, .int 2)]) C [1, 2, 3, 4, 5, 6, 0] dX2_answerOf_58 (by decide) rfl ?_
          have hJ87 : V X G A 8 (QI X G A (98 + 9 * k) ad (fun r E' => (r.toInt = RUv ic md TT fo fx fy N m.toInt) ∧ (∃ pv2 : Nat → Int32, E' 50 = aI G 8 pv2) ∧ ∀ j, j ≠ 50 → E' j = E j)) (98 + 9 * k) ad 0 0 E4 87 [(0, .ref (ad 49)), (1, .ref (ad b)), (2, .int m), (3, .int y2), (4, .int y3), (5, .int (po i1)), (6, .int 2)] [] := by
            refine v_iload C 5 dX2_answerOf_87 rfl ?_
            refine b_if_ne C 105 dX2_answerOf_89 (by decide) hpo (fun c182 => ?_) (fun c182 => by exfalso; omega)
            refine v_iload C 5 dX2_answerOf_105 rfl ?_
            refine v_bipush (v := 10) C dX2_answerOf_107 (by decide) ?_
            refine b_icmp_ne C 132 dX2_answerOf_109 (by decide) hpo (show (10 : Int32).toInt = 10 by decide) (fun c183 => ?_) (fun c183 => by exfalso; omega)
            refine v_iload C 5 dX2_answerOf_132 rfl ?_
            refine v_bipush (v := 11) C dX2_answerOf_134 (by decide) ?_
            refine b_icmp_ne C 178 dX2_answerOf_136 (by decide) hpo (show (11 : Int32).toInt = 11 by decide) (fun c184 => ?_) (fun c184 => by exfalso; omega)
            refine v_iload C 6 dX2_answerOf_178 rfl ?_
            refine v_iconst (v := 2) C dX2_answerOf_180 (by decide) ?_
            refine b_icmp_ne C 210 dX2_answerOf_181 (by decide) (show (2 : Int32).toInt = 2 by decide) (show (2 : Int32).toInt = 2 by decide) (fun c185 => absurd c185 (by decide)) (fun c185 => ?_)
            have hpv1 := hpv (h1 - 1) (by omega)
            have hw1 := ti_wi hP (hoV (h1 - 1) (by omega))
            have hpv2 := hpv (h1 - 2) (by omega)
            have hw2 := ti_wi hP (hoV (h1 - 2) (by omega))
            refine v_aload_n C 0 dX2_answerOf_184 rfl rfl ?_
            refine v_aload_n C 1 dX2_answerOf_185 rfl rfl ?_
            refine v_iload C 4 dX2_answerOf_186 rfl ?_
            refine v_aload_n C 0 dX2_answerOf_188 rfl rfl ?_
            refine v_getr C 49 dX2_answerOf_189 fX2_9 (by omega) hE4_49 rfl rfl ?_
            refine v_iload_n C 3 dX2_answerOf_192 rfl rfl ?_
            refine v_iconst (v := 2) C dX2_answerOf_193 (by decide) ?_
            refine v_isub C dX2_answerOf_194 ?_
            refine v_top (fun x186 ex186 => ?_)
            have hx186 : x186.toInt = ((h1 : Int) - 2) := by rw [ex186]; exact ti_sub hy2 (show (2 : Int32).toInt = 2 by decide) (by omega) (by omega)
            refine v_ald (v := pv1 (h1 - 2)) C 50 dX2_answerOf_195 (by omega) hE4_50 (ti_in hx186 (by omega) (by omega)) (by rw [ti_cl hx186, show Int.toNat ((h1 : Int) - 2) = h1 - 2 by omega]) ?_
            refine v_aload_n C 0 dX2_answerOf_196 rfl rfl ?_
            refine v_getr C 49 dX2_answerOf_197 fX2_9 (by omega) hE4_49 rfl rfl ?_
            refine v_iload_n C 3 dX2_answerOf_200 rfl rfl ?_
            refine v_iconst (v := 1) C dX2_answerOf_201 (by decide) ?_
            refine v_isub C dX2_answerOf_202 ?_
            refine v_top (fun x187 ex187 => ?_)
            have hx187 : x187.toInt = ((h1 : Int) - 1) := by rw [ex187]; exact ti_sub hy2 (show (1 : Int32).toInt = 1 by decide) (by omega) (by omega)
            refine v_ald (v := pv1 (h1 - 1)) C 50 dX2_answerOf_203 (by omega) hE4_50 (ti_in hx187 (by omega) (by omega)) (by rw [ti_cl hx187, show Int.toNat ((h1 : Int) - 1) = h1 - 1 by omega]) ?_
            have hi0 : 0 < i1 := by rcases Nat.eq_zero_or_pos i1 with e | e; (exfalso; rw [e] at hRS; injection hRS with q; injection q with q1 _; omega); exact e
            have htq : (tp (i1 - 1)).toInt = (K1 (h1 - 1)).toInt := by have q := hft.2.2 (i1 - 1) (by omega) (h1 : Int) K1 (by rw [show i1 - 1 + 1 = i1 by omega]; exact hRS); rw [if_pos (by omega), show ((h1 : Int) - 1).toNat = h1 - 1 by omega] at q; rw [q]
            have hkk := hg
            rw [show ((h1 : Int) - 1).toNat = h1 - 1 by omega, show ((h1 : Int) - 2).toNat = h1 - 2 by omega] at hkk
            have hdd : ¬ (po i1).toInt = 9 → (tp (i1 - 1)).toInt = 2 → (0 ≤ (pv1 (h1 - 2)).toInt ∧ (pv1 (h1 - 2)).toInt ≤ 48100) ∧ 0 ≤ (pv1 (h1 - 1)).toInt ∧ (pv1 (h1 - 1)).toInt ≤ 48100 := fun z1 z2 => by have y1 := hoV (h1 - 1) (by omega); have y2 := hoV (h1 - 2) (by omega); unfold wiK at y1 y2; omega
            refine v_cVp C dX2_answerOf_204 lX2_33 mX2_joined 49 (by omega) hE4_49 (by decide) rfl (g_joined l G 0 ad _ hK1 b (by omega) hE4_b hE4_b1 hE4_b2 hE4_b3 hE4_b4 (by omega) y3 (pv1 (h1 - 2)) (pv1 (h1 - 1)) (by have := hy3; omega) hi0 (by omega) (by omega) hdd) ⟨by decide, by decide⟩ rfl (Nat.le_of_ble_eq_true rfl) ⟨Nat.zero_le _, Nat.zero_le _⟩ (fun r188 hp189 => ?_)
            rw [hpo, ho, htq, hpv2, hpv1] at hp189
            refine v_goto C 225 dX2_answerOf_207 (by decide) ?_
            refine v_istore (lv' := [(0, .ref (ad 49)), (1, .ref (ad b)), (2, .int m), (3, .int y2), (4, .int y3), (5, .int (po i1)), (6, .int 2), (7, .int r188)]) C [1, 2, 3, 4, 5, 6, 7, 0] dX2_answerOf_225 (by decide) rfl ?_
            refine v_aload_n C 0 dX2_answerOf_227 rfl rfl ?_
            refine v_aload_n C 1 dX2_answerOf_228 rfl rfl ?_
            refine v_getr C b dX2_answerOf_229 fX2_41 (by omega) hE4_b rfl rfl ?_
            refine v_iload C 4 dX2_answerOf_232 rfl ?_
            refine v_ald (v := tp i1) C (b + 4) dX2_answerOf_234 (by omega) hE4_b4 (ti_in hy3 (by omega) (by omega)) (by rw [ti_cl hy3, show Int.toNat (i1 : Int) = i1 by omega]) ?_
            refine v_iload C 7 dX2_answerOf_235 rfl ?_
            refine v_cVp C dX2_answerOf_237 lX2_44 mX2_isWithin 49 (by omega) hE4_49 (by decide) rfl (g_isWithin l G 0 ad _ hK1 (tp i1) r188) ⟨by decide, by decide⟩ rfl (Nat.le_of_ble_eq_true rfl) ⟨Nat.zero_le _, Nat.zero_le _⟩ (fun r190 hp191 => ?_)
            rw [htv, hp189] at hp191
            rcases hp191 with ⟨rfl, hwi⟩ | ⟨rfl, hwi⟩
            · have hRVn : RVf ic md TT fo fx fy m.toInt (i1 + 1) = some (updI V1 (h1 - 2) (jnV 8 (K1 (h1 - 1)).toInt (V1 (h1 - 2)) (V1 (h1 - 1)))) := by rw [hRV1, VS_8 (by rw [show ((h1 : Int) - 1).toNat = h1 - 1 by omega, show ((h1 : Int) - 2).toNat = h1 - 2 by omega]; exact hwi), show ((h1 : Int) - 1).toNat = h1 - 1 by omega, show ((h1 : Int) - 2).toNat = h1 - 2 by omega]
              refine b_if_ne C 246 dX2_answerOf_240 (by decide) (show (1 : Int32).toInt = 1 by decide) (fun c192 => ?_) (fun c192 => absurd c192 (by decide))
              refine v_iload C 6 dX2_answerOf_246 rfl ?_
              refine v_iconst (v := 2) C dX2_answerOf_248 (by decide) ?_
              refine b_icmp_ne C 258 dX2_answerOf_249 (by decide) (show (2 : Int32).toInt = 2 by decide) (show (2 : Int32).toInt = 2 by decide) (fun c193 => absurd c193 (by decide)) (fun c193 => ?_)
              refine v_iload_n C 3 dX2_answerOf_252 rfl rfl ?_
              refine v_iconst (v := 1) C dX2_answerOf_253 (by decide) ?_
              refine v_isub C dX2_answerOf_254 ?_
              refine v_top (fun x194 ex194 => ?_)
              have hx194 : x194.toInt = ((h1 : Int) - 1) := by rw [ex194]; exact ti_sub hy2 (show (1 : Int32).toInt = 1 by decide) (by omega) (by omega)
              refine v_goto C 259 dX2_answerOf_255 (by decide) ?_
              refine v_istore_n (lv' := [(0, .ref (ad 49)), (1, .ref (ad b)), (2, .int m), (3, .int x194), (4, .int y3), (5, .int (po i1)), (6, .int 2), (7, .int r188)]) C [1, 2, 3, 0, 4, 5, 6, 7] dX2_answerOf_259 rfl (by decide) rfl ?_
              refine v_aload_n C 0 dX2_answerOf_260 rfl rfl ?_
              refine v_getr C 49 dX2_answerOf_261 fX2_9 (by omega) hE4_49 rfl rfl ?_
              refine v_iload_n C 3 dX2_answerOf_264 rfl rfl ?_
              refine v_iconst (v := 1) C dX2_answerOf_265 (by decide) ?_
              refine v_isub C dX2_answerOf_266 ?_
              refine v_top (fun x195 ex195 => ?_)
              have hx195 : x195.toInt = (((h1 : Int) - 1) - 1) := by rw [ex195]; exact ti_sub hx194 (show (1 : Int32).toInt = 1 by decide) (by omega) (by omega)
              refine v_iload C 7 dX2_answerOf_267 rfl ?_
              refine v_ast C 50 dX2_answerOf_269 (by omega) hE4_50 (ti_in hx195 (by omega) (by omega)) (fun E196 hE196_50 oE196 => ?_)
              rw [ti_cl hx195, show Int.toNat (((h1 : Int) - 1) - 1) = h1 - 2 by omega] at hE196_50
              have hE196_49 := (oE196 49 (by decide)).trans hE4_49
              have hE196_b := (oE196 b (by omega)).trans hE4_b
              have hE196_b1 := (oE196 (b + 1) (by omega)).trans hE4_b1
              have hE196_b2 := (oE196 (b + 2) (by omega)).trans hE4_b2
              have hE196_b3 := (oE196 (b + 3) (by omega)).trans hE4_b3
              have hE196_b4 := (oE196 (b + 4) (by omega)).trans hE4_b4
              obtain ⟨x197, ex197⟩ : ∃ y : Int32, y = y3 + 1 := ⟨_, rfl⟩
              have hx197 : x197.toInt = ((i1 : Int) + 1) := by rw [ex197]; exact ti_add hy3 (show (1 : Int32).toInt = 1 by decide) (by omega) (by omega)
              refine v_iinc (v := x197) (lv' := [(0, .ref (ad 49)), (1, .ref (ad b)), (2, .int m), (3, .int x194), (4, .int x197), (5, .int (po i1)), (6, .int 2), (7, .int r188)]) C 4 [1, 2, 3, 4, 0, 5, 6, 7] dX2_answerOf_270 rfl (ex197.symm) (by decide) rfl ?_
              refine v_goto C 5 dX2_answerOf_273 (by decide) ?_
              refine v_sub (lv' := [(0, .ref (ad 49)), (1, .ref (ad b)), (2, .int m), (3, .int x194), (4, .int x197)]) [0, 1, 2, 3, 4] rfl ?_
              have hoVn := VS_ok hm (by omega) hok hoV hFT (hRV1.symm.trans hRVn)
              exact ih8 (h1 - 1) x194 (i1 + 1) x197 E196 (upd pv1 (h1 - 2) r188) K2 (updI V1 (h1 - 2) (jnV 8 (K1 (h1 - 1)).toInt (V1 (h1 - 2)) (V1 (h1 - 1)))) (show Int32.toInt x194 = ((h1 - 1 : Nat) : Int) by have := hx194; omega) (show Int32.toInt x197 = ((i1 + 1 : Nat) : Int) by have := hx197; omega) hE196_50 (fun j g0 => ((oE196 j g0).trans (hfr5 j g0))) (by omega) (by rw [show (((h1 - 1 : Nat)) : Int) = g2 by omega]; exact hRS1) (hRVn) (by rw [show (((h1 - 1 : Nat)) : Int) = g2 by omega]; exact hoVn) (av_up hpv hp189 (fun j q1 q2 => by omega)) (by omega)
            · have hRVx : RVf ic md TT fo fx fy m.toInt (i1 + 1) = none := by rw [hRV1, VS_8n (by rw [show ((h1 : Int) - 1).toNat = h1 - 1 by omega, show ((h1 : Int) - 2).toNat = h1 - 2 by omega]; exact hwi)]
              refine b_if_ne C 246 dX2_answerOf_240 (by decide) (show (0 : Int32).toInt = 0 by decide) (fun c198 => absurd c198 (by decide)) (fun c198 => ?_)
              refine v_ldc C dX2_answerOf_243 kX2_32 ?_
              exact v_ret C dX2_answerOf_245 rfl rfl ⟨(show (-2000000000 : Int32).toInt = -2000000000 by decide).trans (RU_none hRVx (by omega)).symm, ⟨_, hE4_50⟩, fun j hj => hfr5 j hj⟩
          refine v_iload_n C 3 dX2_answerOf_60 rfl rfl ?_
          refine v_iload C 6 dX2_answerOf_61 rfl ?_
          refine b_icmp_lt C 84 dX2_answerOf_63 (by decide) hy2 (show (2 : Int32).toInt = 2 by decide) (fun c199 => by exfalso; omega) (fun c199 => ?_)
          refine v_iload_n C 3 dX2_answerOf_66 rfl rfl ?_
          refine v_bipush (v := 8) C dX2_answerOf_67 (by decide) ?_
          refine b_icmp_lt C 87 dX2_answerOf_69 (by decide) hy2 (show (8 : Int32).toInt = 8 by decide) (fun c200 => ?_) (fun c200 => ?_)
          · exact hJ87
          · refine v_iload C 5 dX2_answerOf_72 rfl ?_
            refine b_if_eq C 84 dX2_answerOf_74 (by decide) hpo (fun c201 => by exfalso; omega) (fun c201 => ?_)
            refine v_iload C 5 dX2_answerOf_77 rfl ?_
            refine v_bipush (v := 10) C dX2_answerOf_79 (by decide) ?_
            refine b_icmp_ne C 87 dX2_answerOf_81 (by decide) hpo (show (10 : Int32).toInt = 10 by decide) (fun c202 => ?_) (fun c202 => by exfalso; omega)
            exact hJ87
        · rw [ho] at hFT hRV1
          obtain ⟨hg, e2, eK⟩ := FT_9 hFT
          have hgp : 0 < g2 := by omega
          rw [if_pos hgp] at htp0
          have htv : (tp i1).toInt = (K2 (g2 - 1).toNat).toInt := by rw [htp0]
          refine v_aload_n C 1 dX2_answerOf_14 rfl rfl ?_
          refine v_getr C b dX2_answerOf_15 fX2_29 (by omega) hE4_b rfl rfl ?_
          refine v_iload C 4 dX2_answerOf_18 rfl ?_
          refine v_ald (v := po i1) C (b + 1) dX2_answerOf_20 (by omega) hE4_b1 (ti_in hy3 (by omega) (by omega)) (by rw [ti_cl hy3, show Int.toNat (i1 : Int) = i1 by omega]) ?_
          refine v_istore (lv' := [(0, .ref (ad 49)), (1, .ref (ad b)), (2, .int m), (3, .int y2), (4, .int y3), (5, .int (po i1))]) C [1, 2, 3, 4, 5, 0] dX2_answerOf_21 (by decide) rfl ?_
          refine v_iload C 5 dX2_answerOf_23 rfl ?_
          refine b_if_ne C 32 dX2_answerOf_25 (by decide) hpo (fun c203 => ?_) (fun c203 => by exfalso; omega)
          refine v_iload C 5 dX2_answerOf_32 rfl ?_
          refine v_bipush (v := 8) C dX2_answerOf_34 (by decide) ?_
          refine b_icmp_eq C 53 dX2_answerOf_36 (by decide) hpo (show (8 : Int32).toInt = 8 by decide) (fun c204 => by exfalso; omega) (fun c204 => ?_)
          refine v_iload C 5 dX2_answerOf_39 rfl ?_
          refine v_bipush (v := 9) C dX2_answerOf_41 (by decide) ?_
          refine b_icmp_eq C 53 dX2_answerOf_43 (by decide) hpo (show (9 : Int32).toInt = 9 by decide) (fun c205 => ?_) (fun c205 => by exfalso; omega)
          refine v_iconst (v := 2) C dX2_answerOf_53 (by decide) ?_
          refine v_goto C 58 dX2_answerOf_54 (by decide) ?_
          refine v_istore (lv' := [(0, .ref (ad 49)), (1, .ref (ad b)), (2, .int m), (3, .int y2), (4, .int y3), (5, .int (po i1)), (6, .int 2)]) C [1, 2, 3, 4, 5, 6, 0] dX2_answerOf_58 (by decide) rfl ?_
          have hJ87 : V X G A 8 (QI X G A (98 + 9 * k) ad (fun r E' => (r.toInt = RUv ic md TT fo fx fy N m.toInt) ∧ (∃ pv2 : Nat → Int32, E' 50 = aI G 8 pv2) ∧ ∀ j, j ≠ 50 → E' j = E j)) (98 + 9 * k) ad 0 0 E4 87 [(0, .ref (ad 49)), (1, .ref (ad b)), (2, .int m), (3, .int y2), (4, .int y3), (5, .int (po i1)), (6, .int 2)] [] := by
            refine v_iload C 5 dX2_answerOf_87 rfl ?_
            refine b_if_ne C 105 dX2_answerOf_89 (by decide) hpo (fun c206 => ?_) (fun c206 => by exfalso; omega)
            refine v_iload C 5 dX2_answerOf_105 rfl ?_
            refine v_bipush (v := 10) C dX2_answerOf_107 (by decide) ?_
            refine b_icmp_ne C 132 dX2_answerOf_109 (by decide) hpo (show (10 : Int32).toInt = 10 by decide) (fun c207 => ?_) (fun c207 => by exfalso; omega)
            refine v_iload C 5 dX2_answerOf_132 rfl ?_
            refine v_bipush (v := 11) C dX2_answerOf_134 (by decide) ?_
            refine b_icmp_ne C 178 dX2_answerOf_136 (by decide) hpo (show (11 : Int32).toInt = 11 by decide) (fun c208 => ?_) (fun c208 => by exfalso; omega)
            refine v_iload C 6 dX2_answerOf_178 rfl ?_
            refine v_iconst (v := 2) C dX2_answerOf_180 (by decide) ?_
            refine b_icmp_ne C 210 dX2_answerOf_181 (by decide) (show (2 : Int32).toInt = 2 by decide) (show (2 : Int32).toInt = 2 by decide) (fun c209 => absurd c209 (by decide)) (fun c209 => ?_)
            have hpv1 := hpv (h1 - 1) (by omega)
            have hw1 := ti_wi hP (hoV (h1 - 1) (by omega))
            have hpv2 := hpv (h1 - 2) (by omega)
            have hw2 := ti_wi hP (hoV (h1 - 2) (by omega))
            refine v_aload_n C 0 dX2_answerOf_184 rfl rfl ?_
            refine v_aload_n C 1 dX2_answerOf_185 rfl rfl ?_
            refine v_iload C 4 dX2_answerOf_186 rfl ?_
            refine v_aload_n C 0 dX2_answerOf_188 rfl rfl ?_
            refine v_getr C 49 dX2_answerOf_189 fX2_9 (by omega) hE4_49 rfl rfl ?_
            refine v_iload_n C 3 dX2_answerOf_192 rfl rfl ?_
            refine v_iconst (v := 2) C dX2_answerOf_193 (by decide) ?_
            refine v_isub C dX2_answerOf_194 ?_
            refine v_top (fun x210 ex210 => ?_)
            have hx210 : x210.toInt = ((h1 : Int) - 2) := by rw [ex210]; exact ti_sub hy2 (show (2 : Int32).toInt = 2 by decide) (by omega) (by omega)
            refine v_ald (v := pv1 (h1 - 2)) C 50 dX2_answerOf_195 (by omega) hE4_50 (ti_in hx210 (by omega) (by omega)) (by rw [ti_cl hx210, show Int.toNat ((h1 : Int) - 2) = h1 - 2 by omega]) ?_
            refine v_aload_n C 0 dX2_answerOf_196 rfl rfl ?_
            refine v_getr C 49 dX2_answerOf_197 fX2_9 (by omega) hE4_49 rfl rfl ?_
            refine v_iload_n C 3 dX2_answerOf_200 rfl rfl ?_
            refine v_iconst (v := 1) C dX2_answerOf_201 (by decide) ?_
            refine v_isub C dX2_answerOf_202 ?_
            refine v_top (fun x211 ex211 => ?_)
            have hx211 : x211.toInt = ((h1 : Int) - 1) := by rw [ex211]; exact ti_sub hy2 (show (1 : Int32).toInt = 1 by decide) (by omega) (by omega)
            refine v_ald (v := pv1 (h1 - 1)) C 50 dX2_answerOf_203 (by omega) hE4_50 (ti_in hx211 (by omega) (by omega)) (by rw [ti_cl hx211, show Int.toNat ((h1 : Int) - 1) = h1 - 1 by omega]) ?_
            have hi0 : 0 < i1 := by rcases Nat.eq_zero_or_pos i1 with e | e; (exfalso; rw [e] at hRS; injection hRS with q; injection q with q1 _; omega); exact e
            have htq : (tp (i1 - 1)).toInt = (K1 (h1 - 1)).toInt := by have q := hft.2.2 (i1 - 1) (by omega) (h1 : Int) K1 (by rw [show i1 - 1 + 1 = i1 by omega]; exact hRS); rw [if_pos (by omega), show ((h1 : Int) - 1).toNat = h1 - 1 by omega] at q; rw [q]
            have hkk := hg
            rw [show ((h1 : Int) - 1).toNat = h1 - 1 by omega, show ((h1 : Int) - 2).toNat = h1 - 2 by omega] at hkk
            have hdd : ¬ (po i1).toInt = 9 → (tp (i1 - 1)).toInt = 2 → (0 ≤ (pv1 (h1 - 2)).toInt ∧ (pv1 (h1 - 2)).toInt ≤ 48100) ∧ 0 ≤ (pv1 (h1 - 1)).toInt ∧ (pv1 (h1 - 1)).toInt ≤ 48100 := fun z1 z2 => by have y1 := hoV (h1 - 1) (by omega); have y2 := hoV (h1 - 2) (by omega); unfold wiK at y1 y2; omega
            refine v_cVp C dX2_answerOf_204 lX2_33 mX2_joined 49 (by omega) hE4_49 (by decide) rfl (g_joined l G 0 ad _ hK1 b (by omega) hE4_b hE4_b1 hE4_b2 hE4_b3 hE4_b4 (by omega) y3 (pv1 (h1 - 2)) (pv1 (h1 - 1)) (by have := hy3; omega) hi0 (by omega) (by omega) hdd) ⟨by decide, by decide⟩ rfl (Nat.le_of_ble_eq_true rfl) ⟨Nat.zero_le _, Nat.zero_le _⟩ (fun r212 hp213 => ?_)
            rw [hpo, ho, htq, hpv2, hpv1] at hp213
            refine v_goto C 225 dX2_answerOf_207 (by decide) ?_
            refine v_istore (lv' := [(0, .ref (ad 49)), (1, .ref (ad b)), (2, .int m), (3, .int y2), (4, .int y3), (5, .int (po i1)), (6, .int 2), (7, .int r212)]) C [1, 2, 3, 4, 5, 6, 7, 0] dX2_answerOf_225 (by decide) rfl ?_
            refine v_aload_n C 0 dX2_answerOf_227 rfl rfl ?_
            refine v_aload_n C 1 dX2_answerOf_228 rfl rfl ?_
            refine v_getr C b dX2_answerOf_229 fX2_41 (by omega) hE4_b rfl rfl ?_
            refine v_iload C 4 dX2_answerOf_232 rfl ?_
            refine v_ald (v := tp i1) C (b + 4) dX2_answerOf_234 (by omega) hE4_b4 (ti_in hy3 (by omega) (by omega)) (by rw [ti_cl hy3, show Int.toNat (i1 : Int) = i1 by omega]) ?_
            refine v_iload C 7 dX2_answerOf_235 rfl ?_
            refine v_cVp C dX2_answerOf_237 lX2_44 mX2_isWithin 49 (by omega) hE4_49 (by decide) rfl (g_isWithin l G 0 ad _ hK1 (tp i1) r212) ⟨by decide, by decide⟩ rfl (Nat.le_of_ble_eq_true rfl) ⟨Nat.zero_le _, Nat.zero_le _⟩ (fun r214 hp215 => ?_)
            rw [htv, hp213] at hp215
            rcases hp215 with ⟨rfl, hwi⟩ | ⟨rfl, hwi⟩
            · have hRVn : RVf ic md TT fo fx fy m.toInt (i1 + 1) = some (updI V1 (h1 - 2) (jnV 9 (K1 (h1 - 1)).toInt (V1 (h1 - 2)) (V1 (h1 - 1)))) := by rw [hRV1, VS_9 (by rw [show ((h1 : Int) - 1).toNat = h1 - 1 by omega, show ((h1 : Int) - 2).toNat = h1 - 2 by omega]; exact hwi), show ((h1 : Int) - 1).toNat = h1 - 1 by omega, show ((h1 : Int) - 2).toNat = h1 - 2 by omega]
              refine b_if_ne C 246 dX2_answerOf_240 (by decide) (show (1 : Int32).toInt = 1 by decide) (fun c216 => ?_) (fun c216 => absurd c216 (by decide))
              refine v_iload C 6 dX2_answerOf_246 rfl ?_
              refine v_iconst (v := 2) C dX2_answerOf_248 (by decide) ?_
              refine b_icmp_ne C 258 dX2_answerOf_249 (by decide) (show (2 : Int32).toInt = 2 by decide) (show (2 : Int32).toInt = 2 by decide) (fun c217 => absurd c217 (by decide)) (fun c217 => ?_)
              refine v_iload_n C 3 dX2_answerOf_252 rfl rfl ?_
              refine v_iconst (v := 1) C dX2_answerOf_253 (by decide) ?_
              refine v_isub C dX2_answerOf_254 ?_
              refine v_top (fun x218 ex218 => ?_)
              have hx218 : x218.toInt = ((h1 : Int) - 1) := by rw [ex218]; exact ti_sub hy2 (show (1 : Int32).toInt = 1 by decide) (by omega) (by omega)
              refine v_goto C 259 dX2_answerOf_255 (by decide) ?_
              refine v_istore_n (lv' := [(0, .ref (ad 49)), (1, .ref (ad b)), (2, .int m), (3, .int x218), (4, .int y3), (5, .int (po i1)), (6, .int 2), (7, .int r212)]) C [1, 2, 3, 0, 4, 5, 6, 7] dX2_answerOf_259 rfl (by decide) rfl ?_
              refine v_aload_n C 0 dX2_answerOf_260 rfl rfl ?_
              refine v_getr C 49 dX2_answerOf_261 fX2_9 (by omega) hE4_49 rfl rfl ?_
              refine v_iload_n C 3 dX2_answerOf_264 rfl rfl ?_
              refine v_iconst (v := 1) C dX2_answerOf_265 (by decide) ?_
              refine v_isub C dX2_answerOf_266 ?_
              refine v_top (fun x219 ex219 => ?_)
              have hx219 : x219.toInt = (((h1 : Int) - 1) - 1) := by rw [ex219]; exact ti_sub hx218 (show (1 : Int32).toInt = 1 by decide) (by omega) (by omega)
              refine v_iload C 7 dX2_answerOf_267 rfl ?_
              refine v_ast C 50 dX2_answerOf_269 (by omega) hE4_50 (ti_in hx219 (by omega) (by omega)) (fun E220 hE220_50 oE220 => ?_)
              rw [ti_cl hx219, show Int.toNat (((h1 : Int) - 1) - 1) = h1 - 2 by omega] at hE220_50
              have hE220_49 := (oE220 49 (by decide)).trans hE4_49
              have hE220_b := (oE220 b (by omega)).trans hE4_b
              have hE220_b1 := (oE220 (b + 1) (by omega)).trans hE4_b1
              have hE220_b2 := (oE220 (b + 2) (by omega)).trans hE4_b2
              have hE220_b3 := (oE220 (b + 3) (by omega)).trans hE4_b3
              have hE220_b4 := (oE220 (b + 4) (by omega)).trans hE4_b4
              obtain ⟨x221, ex221⟩ : ∃ y : Int32, y = y3 + 1 := ⟨_, rfl⟩
              have hx221 : x221.toInt = ((i1 : Int) + 1) := by rw [ex221]; exact ti_add hy3 (show (1 : Int32).toInt = 1 by decide) (by omega) (by omega)
              refine v_iinc (v := x221) (lv' := [(0, .ref (ad 49)), (1, .ref (ad b)), (2, .int m), (3, .int x218), (4, .int x221), (5, .int (po i1)), (6, .int 2), (7, .int r212)]) C 4 [1, 2, 3, 4, 0, 5, 6, 7] dX2_answerOf_270 rfl (ex221.symm) (by decide) rfl ?_
              refine v_goto C 5 dX2_answerOf_273 (by decide) ?_
              refine v_sub (lv' := [(0, .ref (ad 49)), (1, .ref (ad b)), (2, .int m), (3, .int x218), (4, .int x221)]) [0, 1, 2, 3, 4] rfl ?_
              have hoVn := VS_ok hm (by omega) hok hoV hFT (hRV1.symm.trans hRVn)
              exact ih8 (h1 - 1) x218 (i1 + 1) x221 E220 (upd pv1 (h1 - 2) r212) K2 (updI V1 (h1 - 2) (jnV 9 (K1 (h1 - 1)).toInt (V1 (h1 - 2)) (V1 (h1 - 1)))) (show Int32.toInt x218 = ((h1 - 1 : Nat) : Int) by have := hx218; omega) (show Int32.toInt x221 = ((i1 + 1 : Nat) : Int) by have := hx221; omega) hE220_50 (fun j g0 => ((oE220 j g0).trans (hfr5 j g0))) (by omega) (by rw [show (((h1 - 1 : Nat)) : Int) = g2 by omega]; exact hRS1) (hRVn) (by rw [show (((h1 - 1 : Nat)) : Int) = g2 by omega]; exact hoVn) (av_up hpv hp213 (fun j q1 q2 => by omega)) (by omega)
            · have hRVx : RVf ic md TT fo fx fy m.toInt (i1 + 1) = none := by rw [hRV1, VS_9n (by rw [show ((h1 : Int) - 1).toNat = h1 - 1 by omega, show ((h1 : Int) - 2).toNat = h1 - 2 by omega]; exact hwi)]
              refine b_if_ne C 246 dX2_answerOf_240 (by decide) (show (0 : Int32).toInt = 0 by decide) (fun c222 => absurd c222 (by decide)) (fun c222 => ?_)
              refine v_ldc C dX2_answerOf_243 kX2_32 ?_
              exact v_ret C dX2_answerOf_245 rfl rfl ⟨(show (-2000000000 : Int32).toInt = -2000000000 by decide).trans (RU_none hRVx (by omega)).symm, ⟨_, hE4_50⟩, fun j hj => hfr5 j hj⟩
          refine v_iload_n C 3 dX2_answerOf_60 rfl rfl ?_
          refine v_iload C 6 dX2_answerOf_61 rfl ?_
          refine b_icmp_lt C 84 dX2_answerOf_63 (by decide) hy2 (show (2 : Int32).toInt = 2 by decide) (fun c223 => by exfalso; omega) (fun c223 => ?_)
          refine v_iload_n C 3 dX2_answerOf_66 rfl rfl ?_
          refine v_bipush (v := 8) C dX2_answerOf_67 (by decide) ?_
          refine b_icmp_lt C 87 dX2_answerOf_69 (by decide) hy2 (show (8 : Int32).toInt = 8 by decide) (fun c224 => ?_) (fun c224 => ?_)
          · exact hJ87
          · refine v_iload C 5 dX2_answerOf_72 rfl ?_
            refine b_if_eq C 84 dX2_answerOf_74 (by decide) hpo (fun c225 => by exfalso; omega) (fun c225 => ?_)
            refine v_iload C 5 dX2_answerOf_77 rfl ?_
            refine v_bipush (v := 10) C dX2_answerOf_79 (by decide) ?_
            refine b_icmp_ne C 87 dX2_answerOf_81 (by decide) hpo (show (10 : Int32).toInt = 10 by decide) (fun c226 => ?_) (fun c226 => by exfalso; omega)
            exact hJ87
        · rw [ho] at hFT hRV1
          obtain ⟨hg, e2, eK⟩ := FT_10 hFT
          have hgp : 0 < g2 := by omega
          rw [if_pos hgp] at htp0
          refine v_aload_n C 1 dX2_answerOf_14 rfl rfl ?_
          refine v_getr C b dX2_answerOf_15 fX2_29 (by omega) hE4_b rfl rfl ?_
          refine v_iload C 4 dX2_answerOf_18 rfl ?_
          refine v_ald (v := po i1) C (b + 1) dX2_answerOf_20 (by omega) hE4_b1 (ti_in hy3 (by omega) (by omega)) (by rw [ti_cl hy3, show Int.toNat (i1 : Int) = i1 by omega]) ?_
          refine v_istore (lv' := [(0, .ref (ad 49)), (1, .ref (ad b)), (2, .int m), (3, .int y2), (4, .int y3), (5, .int (po i1))]) C [1, 2, 3, 4, 5, 0] dX2_answerOf_21 (by decide) rfl ?_
          refine v_iload C 5 dX2_answerOf_23 rfl ?_
          refine b_if_ne C 32 dX2_answerOf_25 (by decide) hpo (fun c227 => ?_) (fun c227 => by exfalso; omega)
          refine v_iload C 5 dX2_answerOf_32 rfl ?_
          refine v_bipush (v := 8) C dX2_answerOf_34 (by decide) ?_
          refine b_icmp_eq C 53 dX2_answerOf_36 (by decide) hpo (show (8 : Int32).toInt = 8 by decide) (fun c228 => by exfalso; omega) (fun c228 => ?_)
          refine v_iload C 5 dX2_answerOf_39 rfl ?_
          refine v_bipush (v := 9) C dX2_answerOf_41 (by decide) ?_
          refine b_icmp_eq C 53 dX2_answerOf_43 (by decide) hpo (show (9 : Int32).toInt = 9 by decide) (fun c229 => by exfalso; omega) (fun c229 => ?_)
          refine v_iload C 5 dX2_answerOf_46 rfl ?_
          refine v_bipush (v := 11) C dX2_answerOf_48 (by decide) ?_
          refine b_icmp_ne C 57 dX2_answerOf_50 (by decide) hpo (show (11 : Int32).toInt = 11 by decide) (fun c230 => ?_) (fun c230 => by exfalso; omega)
          refine v_iconst (v := 1) C dX2_answerOf_57 (by decide) ?_
          refine v_istore (lv' := [(0, .ref (ad 49)), (1, .ref (ad b)), (2, .int m), (3, .int y2), (4, .int y3), (5, .int (po i1)), (6, .int 1)]) C [1, 2, 3, 4, 5, 6, 0] dX2_answerOf_58 (by decide) rfl ?_
          refine v_iload_n C 3 dX2_answerOf_60 rfl rfl ?_
          refine v_iload C 6 dX2_answerOf_61 rfl ?_
          refine b_icmp_lt C 84 dX2_answerOf_63 (by decide) hy2 (show (1 : Int32).toInt = 1 by decide) (fun c231 => by exfalso; omega) (fun c231 => ?_)
          refine v_iload_n C 3 dX2_answerOf_66 rfl rfl ?_
          refine v_bipush (v := 8) C dX2_answerOf_67 (by decide) ?_
          refine b_icmp_lt C 87 dX2_answerOf_69 (by decide) hy2 (show (8 : Int32).toInt = 8 by decide) (fun c232 => ?_) (fun c232 => by exfalso; omega)
          refine v_iload C 5 dX2_answerOf_87 rfl ?_
          refine b_if_ne C 105 dX2_answerOf_89 (by decide) hpo (fun c233 => ?_) (fun c233 => by exfalso; omega)
          refine v_iload C 5 dX2_answerOf_105 rfl ?_
          refine v_bipush (v := 10) C dX2_answerOf_107 (by decide) ?_
          refine b_icmp_ne C 132 dX2_answerOf_109 (by decide) hpo (show (10 : Int32).toInt = 10 by decide) (fun c234 => by exfalso; omega) (fun c234 => ?_)
          have hpv1 := hpv (h1 - 1) (by omega)
          have hw1 := ti_wi hP (hoV (h1 - 1) (by omega))
          refine v_aload_n C 0 dX2_answerOf_112 rfl rfl ?_
          refine v_getr C 49 dX2_answerOf_113 fX2_9 (by omega) hE4_49 rfl rfl ?_
          refine v_iload_n C 3 dX2_answerOf_116 rfl rfl ?_
          refine v_aload_n C 0 dX2_answerOf_117 rfl rfl ?_
          refine v_getr C 49 dX2_answerOf_118 fX2_9 (by omega) hE4_49 rfl rfl ?_
          refine v_iload_n C 3 dX2_answerOf_121 rfl rfl ?_
          refine v_iconst (v := 1) C dX2_answerOf_122 (by decide) ?_
          refine v_isub C dX2_answerOf_123 ?_
          refine v_top (fun x235 ex235 => ?_)
          have hx235 : x235.toInt = ((h1 : Int) - 1) := by rw [ex235]; exact ti_sub hy2 (show (1 : Int32).toInt = 1 by decide) (by omega) (by omega)
          refine v_ald (v := pv1 (h1 - 1)) C 50 dX2_answerOf_124 (by omega) hE4_50 (ti_in hx235 (by omega) (by omega)) (by rw [ti_cl hx235, show Int.toNat ((h1 : Int) - 1) = h1 - 1 by omega]) ?_
          refine v_ast C 50 dX2_answerOf_125 (by omega) hE4_50 (ti_in hy2 (by omega) (by omega)) (fun E236 hE236_50 oE236 => ?_)
          rw [ti_cl hy2, show Int.toNat (h1 : Int) = h1 by omega] at hE236_50
          have hE236_49 := (oE236 49 (by decide)).trans hE4_49
          have hE236_b := (oE236 b (by omega)).trans hE4_b
          have hE236_b1 := (oE236 (b + 1) (by omega)).trans hE4_b1
          have hE236_b2 := (oE236 (b + 2) (by omega)).trans hE4_b2
          have hE236_b3 := (oE236 (b + 3) (by omega)).trans hE4_b3
          have hE236_b4 := (oE236 (b + 4) (by omega)).trans hE4_b4
          obtain ⟨x237, ex237⟩ : ∃ y : Int32, y = y2 + 1 := ⟨_, rfl⟩
          have hx237 : x237.toInt = ((h1 : Int) + 1) := by rw [ex237]; exact ti_add hy2 (show (1 : Int32).toInt = 1 by decide) (by omega) (by omega)
          refine v_iinc (v := x237) (lv' := [(0, .ref (ad 49)), (1, .ref (ad b)), (2, .int m), (3, .int x237), (4, .int y3), (5, .int (po i1)), (6, .int 1)]) C 3 [1, 2, 3, 0, 4, 5, 6] dX2_answerOf_126 rfl (ex237.symm) (by decide) rfl ?_
          refine v_goto C 270 dX2_answerOf_129 (by decide) ?_
          obtain ⟨x238, ex238⟩ : ∃ y : Int32, y = y3 + 1 := ⟨_, rfl⟩
          have hx238 : x238.toInt = ((i1 : Int) + 1) := by rw [ex238]; exact ti_add hy3 (show (1 : Int32).toInt = 1 by decide) (by omega) (by omega)
          refine v_iinc (v := x238) (lv' := [(0, .ref (ad 49)), (1, .ref (ad b)), (2, .int m), (3, .int x237), (4, .int x238), (5, .int (po i1)), (6, .int 1)]) C 4 [1, 2, 3, 4, 0, 5, 6] dX2_answerOf_270 rfl (ex238.symm) (by decide) rfl ?_
          refine v_goto C 5 dX2_answerOf_273 (by decide) ?_
          refine v_sub (lv' := [(0, .ref (ad 49)), (1, .ref (ad b)), (2, .int m), (3, .int x237), (4, .int x238)]) [0, 1, 2, 3, 4] rfl ?_
          have hRVn : RVf ic md TT fo fx fy m.toInt (i1 + 1) = some (updI V1 h1 (V1 (h1 - 1))) := by rw [hRV1, VS_10, show ((h1 : Nat) : Int).toNat = h1 by omega, show ((h1 : Int) - 1).toNat = h1 - 1 by omega]
          have hoVn := VS_ok hm (by omega) hok hoV hFT (hRV1.symm.trans hRVn)
          exact ih8 (h1 + 1) x237 (i1 + 1) x238 E236 (upd pv1 h1 (pv1 (h1 - 1))) K2 (updI V1 h1 (V1 (h1 - 1))) (show Int32.toInt x237 = ((h1 + 1 : Nat) : Int) by have := hx237; omega) (show Int32.toInt x238 = ((i1 + 1 : Nat) : Int) by have := hx238; omega) hE236_50 (fun j g0 => ((oE236 j g0).trans (hfr5 j g0))) (by omega) (by rw [show (((h1 + 1 : Nat)) : Int) = g2 by omega]; exact hRS1) (hRVn) (by rw [show (((h1 + 1 : Nat)) : Int) = g2 by omega]; exact hoVn) (av_up hpv hpv1 (fun j q1 q2 => by omega)) (by omega)
        · rw [ho] at hFT hRV1
          obtain ⟨hg, e2, eK⟩ := FT_11 hFT
          have hgp : 0 < g2 := by omega
          rw [if_pos hgp] at htp0
          have htv : (tp i1).toInt = (K2 (g2 - 1).toNat).toInt := by rw [htp0]
          refine v_aload_n C 1 dX2_answerOf_14 rfl rfl ?_
          refine v_getr C b dX2_answerOf_15 fX2_29 (by omega) hE4_b rfl rfl ?_
          refine v_iload C 4 dX2_answerOf_18 rfl ?_
          refine v_ald (v := po i1) C (b + 1) dX2_answerOf_20 (by omega) hE4_b1 (ti_in hy3 (by omega) (by omega)) (by rw [ti_cl hy3, show Int.toNat (i1 : Int) = i1 by omega]) ?_
          refine v_istore (lv' := [(0, .ref (ad 49)), (1, .ref (ad b)), (2, .int m), (3, .int y2), (4, .int y3), (5, .int (po i1))]) C [1, 2, 3, 4, 5, 0] dX2_answerOf_21 (by decide) rfl ?_
          refine v_iload C 5 dX2_answerOf_23 rfl ?_
          refine b_if_ne C 32 dX2_answerOf_25 (by decide) hpo (fun c239 => ?_) (fun c239 => by exfalso; omega)
          refine v_iload C 5 dX2_answerOf_32 rfl ?_
          refine v_bipush (v := 8) C dX2_answerOf_34 (by decide) ?_
          refine b_icmp_eq C 53 dX2_answerOf_36 (by decide) hpo (show (8 : Int32).toInt = 8 by decide) (fun c240 => by exfalso; omega) (fun c240 => ?_)
          refine v_iload C 5 dX2_answerOf_39 rfl ?_
          refine v_bipush (v := 9) C dX2_answerOf_41 (by decide) ?_
          refine b_icmp_eq C 53 dX2_answerOf_43 (by decide) hpo (show (9 : Int32).toInt = 9 by decide) (fun c241 => by exfalso; omega) (fun c241 => ?_)
          refine v_iload C 5 dX2_answerOf_46 rfl ?_
          refine v_bipush (v := 11) C dX2_answerOf_48 (by decide) ?_
          refine b_icmp_ne C 57 dX2_answerOf_50 (by decide) hpo (show (11 : Int32).toInt = 11 by decide) (fun c242 => by exfalso; omega) (fun c242 => ?_)
          refine v_iconst (v := 2) C dX2_answerOf_53 (by decide) ?_
          refine v_goto C 58 dX2_answerOf_54 (by decide) ?_
          refine v_istore (lv' := [(0, .ref (ad 49)), (1, .ref (ad b)), (2, .int m), (3, .int y2), (4, .int y3), (5, .int (po i1)), (6, .int 2)]) C [1, 2, 3, 4, 5, 6, 0] dX2_answerOf_58 (by decide) rfl ?_
          have hJ87 : V X G A 8 (QI X G A (98 + 9 * k) ad (fun r E' => (r.toInt = RUv ic md TT fo fx fy N m.toInt) ∧ (∃ pv2 : Nat → Int32, E' 50 = aI G 8 pv2) ∧ ∀ j, j ≠ 50 → E' j = E j)) (98 + 9 * k) ad 0 0 E4 87 [(0, .ref (ad 49)), (1, .ref (ad b)), (2, .int m), (3, .int y2), (4, .int y3), (5, .int (po i1)), (6, .int 2)] [] := by
            refine v_iload C 5 dX2_answerOf_87 rfl ?_
            refine b_if_ne C 105 dX2_answerOf_89 (by decide) hpo (fun c243 => ?_) (fun c243 => by exfalso; omega)
            refine v_iload C 5 dX2_answerOf_105 rfl ?_
            refine v_bipush (v := 10) C dX2_answerOf_107 (by decide) ?_
            refine b_icmp_ne C 132 dX2_answerOf_109 (by decide) hpo (show (10 : Int32).toInt = 10 by decide) (fun c244 => ?_) (fun c244 => by exfalso; omega)
            refine v_iload C 5 dX2_answerOf_132 rfl ?_
            refine v_bipush (v := 11) C dX2_answerOf_134 (by decide) ?_
            refine b_icmp_ne C 178 dX2_answerOf_136 (by decide) hpo (show (11 : Int32).toInt = 11 by decide) (fun c245 => by exfalso; omega) (fun c245 => ?_)
            have hpv1 := hpv (h1 - 1) (by omega)
            have hw1 := ti_wi hP (hoV (h1 - 1) (by omega))
            have hpv2 := hpv (h1 - 2) (by omega)
            have hw2 := ti_wi hP (hoV (h1 - 2) (by omega))
            refine v_aload_n C 0 dX2_answerOf_139 rfl rfl ?_
            refine v_getr C 49 dX2_answerOf_140 fX2_9 (by omega) hE4_49 rfl rfl ?_
            refine v_iload_n C 3 dX2_answerOf_143 rfl rfl ?_
            refine v_iconst (v := 1) C dX2_answerOf_144 (by decide) ?_
            refine v_isub C dX2_answerOf_145 ?_
            refine v_top (fun x246 ex246 => ?_)
            have hx246 : x246.toInt = ((h1 : Int) - 1) := by rw [ex246]; exact ti_sub hy2 (show (1 : Int32).toInt = 1 by decide) (by omega) (by omega)
            refine v_ald (v := pv1 (h1 - 1)) C 50 dX2_answerOf_146 (by omega) hE4_50 (ti_in hx246 (by omega) (by omega)) (by rw [ti_cl hx246, show Int.toNat ((h1 : Int) - 1) = h1 - 1 by omega]) ?_
            refine v_istore (lv' := [(0, .ref (ad 49)), (1, .ref (ad b)), (2, .int m), (3, .int y2), (4, .int y3), (5, .int (po i1)), (6, .int 2), (7, .int (pv1 (h1 - 1)))]) C [1, 2, 3, 4, 5, 6, 7, 0] dX2_answerOf_147 (by decide) rfl ?_
            refine v_aload_n C 0 dX2_answerOf_149 rfl rfl ?_
            refine v_getr C 49 dX2_answerOf_150 fX2_9 (by omega) hE4_49 rfl rfl ?_
            refine v_iload_n C 3 dX2_answerOf_153 rfl rfl ?_
            refine v_iconst (v := 1) C dX2_answerOf_154 (by decide) ?_
            refine v_isub C dX2_answerOf_155 ?_
            refine v_top (fun x247 ex247 => ?_)
            have hx247 : x247.toInt = ((h1 : Int) - 1) := by rw [ex247]; exact ti_sub hy2 (show (1 : Int32).toInt = 1 by decide) (by omega) (by omega)
            refine v_aload_n C 0 dX2_answerOf_156 rfl rfl ?_
            refine v_getr C 49 dX2_answerOf_157 fX2_9 (by omega) hE4_49 rfl rfl ?_
            refine v_iload_n C 3 dX2_answerOf_160 rfl rfl ?_
            refine v_iconst (v := 2) C dX2_answerOf_161 (by decide) ?_
            refine v_isub C dX2_answerOf_162 ?_
            refine v_top (fun x248 ex248 => ?_)
            have hx248 : x248.toInt = ((h1 : Int) - 2) := by rw [ex248]; exact ti_sub hy2 (show (2 : Int32).toInt = 2 by decide) (by omega) (by omega)
            refine v_ald (v := pv1 (h1 - 2)) C 50 dX2_answerOf_163 (by omega) hE4_50 (ti_in hx248 (by omega) (by omega)) (by rw [ti_cl hx248, show Int.toNat ((h1 : Int) - 2) = h1 - 2 by omega]) ?_
            refine v_ast C 50 dX2_answerOf_164 (by omega) hE4_50 (ti_in hx247 (by omega) (by omega)) (fun E249 hE249_50 oE249 => ?_)
            rw [ti_cl hx247, show Int.toNat ((h1 : Int) - 1) = h1 - 1 by omega] at hE249_50
            have hE249_49 := (oE249 49 (by decide)).trans hE4_49
            have hE249_b := (oE249 b (by omega)).trans hE4_b
            have hE249_b1 := (oE249 (b + 1) (by omega)).trans hE4_b1
            have hE249_b2 := (oE249 (b + 2) (by omega)).trans hE4_b2
            have hE249_b3 := (oE249 (b + 3) (by omega)).trans hE4_b3
            have hE249_b4 := (oE249 (b + 4) (by omega)).trans hE4_b4
            refine v_aload_n C 0 dX2_answerOf_165 rfl rfl ?_
            refine v_getr C 49 dX2_answerOf_166 fX2_9 (by omega) hE249_49 rfl rfl ?_
            refine v_iload_n C 3 dX2_answerOf_169 rfl rfl ?_
            refine v_iconst (v := 2) C dX2_answerOf_170 (by decide) ?_
            refine v_isub C dX2_answerOf_171 ?_
            refine v_top (fun x250 ex250 => ?_)
            have hx250 : x250.toInt = ((h1 : Int) - 2) := by rw [ex250]; exact ti_sub hy2 (show (2 : Int32).toInt = 2 by decide) (by omega) (by omega)
            refine v_iload C 7 dX2_answerOf_172 rfl ?_
            refine v_ast C 50 dX2_answerOf_174 (by omega) hE249_50 (ti_in hx250 (by omega) (by omega)) (fun E251 hE251_50 oE251 => ?_)
            rw [ti_cl hx250, show Int.toNat ((h1 : Int) - 2) = h1 - 2 by omega] at hE251_50
            have hE251_49 := (oE251 49 (by decide)).trans hE249_49
            have hE251_b := (oE251 b (by omega)).trans hE249_b
            have hE251_b1 := (oE251 (b + 1) (by omega)).trans hE249_b1
            have hE251_b2 := (oE251 (b + 2) (by omega)).trans hE249_b2
            have hE251_b3 := (oE251 (b + 3) (by omega)).trans hE249_b3
            have hE251_b4 := (oE251 (b + 4) (by omega)).trans hE249_b4
            refine v_goto C 270 dX2_answerOf_175 (by decide) ?_
            obtain ⟨x252, ex252⟩ : ∃ y : Int32, y = y3 + 1 := ⟨_, rfl⟩
            have hx252 : x252.toInt = ((i1 : Int) + 1) := by rw [ex252]; exact ti_add hy3 (show (1 : Int32).toInt = 1 by decide) (by omega) (by omega)
            refine v_iinc (v := x252) (lv' := [(0, .ref (ad 49)), (1, .ref (ad b)), (2, .int m), (3, .int y2), (4, .int x252), (5, .int (po i1)), (6, .int 2), (7, .int (pv1 (h1 - 1)))]) C 4 [1, 2, 3, 4, 0, 5, 6, 7] dX2_answerOf_270 rfl (ex252.symm) (by decide) rfl ?_
            refine v_goto C 5 dX2_answerOf_273 (by decide) ?_
            refine v_sub (lv' := [(0, .ref (ad 49)), (1, .ref (ad b)), (2, .int m), (3, .int y2), (4, .int x252)]) [0, 1, 2, 3, 4] rfl ?_
            have hRVn : RVf ic md TT fo fx fy m.toInt (i1 + 1) = some (updI (updI V1 (h1 - 1) (V1 (h1 - 2))) (h1 - 2) (V1 (h1 - 1))) := by rw [hRV1, VS_11, show ((h1 : Int) - 1).toNat = h1 - 1 by omega, show ((h1 : Int) - 2).toNat = h1 - 2 by omega]
            have hoVn := VS_ok hm (by omega) hok hoV hFT (hRV1.symm.trans hRVn)
            exact ih8 h1 y2 (i1 + 1) x252 E251 (upd (upd pv1 (h1 - 1) (pv1 (h1 - 2))) (h1 - 2) (pv1 (h1 - 1))) K2 (updI (updI V1 (h1 - 1) (V1 (h1 - 2))) (h1 - 2) (V1 (h1 - 1))) (show Int32.toInt y2 = ((h1 : Nat) : Int) by have := hy2; omega) (show Int32.toInt x252 = ((i1 + 1 : Nat) : Int) by have := hx252; omega) hE251_50 (fun j g0 => ((oE251 j g0).trans ((oE249 j g0).trans (hfr5 j g0)))) (by omega) (by rw [show (((h1 : Nat)) : Int) = g2 by omega]; exact hRS1) (hRVn) (by rw [show (((h1 : Nat)) : Int) = g2 by omega]; exact hoVn) (av_up (h := h1) (av_up hpv hpv2 (fun j q1 q2 => by omega)) hpv1 (fun j q1 q2 => by omega)) (by omega)
          refine v_iload_n C 3 dX2_answerOf_60 rfl rfl ?_
          refine v_iload C 6 dX2_answerOf_61 rfl ?_
          refine b_icmp_lt C 84 dX2_answerOf_63 (by decide) hy2 (show (2 : Int32).toInt = 2 by decide) (fun c253 => by exfalso; omega) (fun c253 => ?_)
          refine v_iload_n C 3 dX2_answerOf_66 rfl rfl ?_
          refine v_bipush (v := 8) C dX2_answerOf_67 (by decide) ?_
          refine b_icmp_lt C 87 dX2_answerOf_69 (by decide) hy2 (show (8 : Int32).toInt = 8 by decide) (fun c254 => ?_) (fun c254 => ?_)
          · exact hJ87
          · refine v_iload C 5 dX2_answerOf_72 rfl ?_
            refine b_if_eq C 84 dX2_answerOf_74 (by decide) hpo (fun c255 => by exfalso; omega) (fun c255 => ?_)
            refine v_iload C 5 dX2_answerOf_77 rfl ?_
            refine v_bipush (v := 10) C dX2_answerOf_79 (by decide) ?_
            refine b_icmp_ne C 87 dX2_answerOf_81 (by decide) hpo (show (10 : Int32).toInt = 10 by decide) (fun c256 => ?_) (fun c256 => by exfalso; omega)
            exact hJ87
  exact LP1 100000 0 0 0 0 E pv (fun _ => 0) (fun _ => 0) (show Int32.toInt 0 = ((0 : Nat) : Int) by have := (show (0 : Int32).toInt = 0 by decide); omega) (show Int32.toInt 0 = ((0 : Nat) : Int) by have := (show (0 : Int32).toInt = 0 by decide); omega) h50 (fun j _ => rfl) (by omega) (rfl) (rfl) (fun j hj => absurd hj (by omega)) (fun j hj => absurd hj (by omega)) (by omega)

