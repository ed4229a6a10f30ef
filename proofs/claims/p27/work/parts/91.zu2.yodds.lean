set_option maxRecDepth 20000 in
theorem y_addOdd (l : Launch) (G : Gl) (n : Nat) (ad : Nat → Nat) (E : Nat → va_E) (hn : 98 ≤ n) {im : Nat → Int32} (h68 : E 68 = ob 9 (rX9 ad) im) {od : Nat → Int32} (h97 : E 97 = aI G 40000 od) {M : Nat} (hM : (im 41).toInt = (M : Int)) (hM4 : M < 40000) {mm : Int} (m : Int32) (a : Int32) (b : Int32) (hmm : m.toInt = mm) : CtV l G yX9_addOdd cX9_addOdd 4 0 0 (n) ad E [.ref (ad 68), .int m, .int a, .int b] (fun E' => ∃ (im1 od1 : Nat → Int32) (M1 : Nat), (∀ q, q ≠ 41 → im1 q = im q) ∧ (im1 41).toInt = (M1 : Int) ∧ M1 ≤ M + 1 ∧ E' 68 = ob 9 (rX9 ad) im1 ∧ E' 97 = aI G 40000 od1 ∧ (∀ x, inS od1 M1 x ↔ inS od M x ∨ (x = mm ∧ a.toInt ≤ x ∧ x ≤ b.toInt)) ∧ ∀ j, j ≠ 68 → j ≠ 97 → E' j = E j) := by
  refine CtV.of (by decide) (Nat.le_of_ble_eq_true rfl) (fun X A C => ?_)
  refine v_sub (lv' := [(0, .ref (ad 68)), (1, .int m), (2, .int a), (3, .int b)]) [0, 1, 2, 3] rfl ?_
  refine v_iload_n C 1 dX9_addOdd_0 rfl rfl ?_
  refine v_iload_n C 2 dX9_addOdd_1 rfl rfl ?_
  refine b_icmp_lt C 30 dX9_addOdd_2 (by decide) hmm (rfl : Int32.toInt a = _) (fun c1 => ?_) (fun c1 => ?_)
  · exact v_vret C dX9_addOdd_30 rfl ⟨im, od, M, fun _ _ => rfl, hM, by omega, h68, h97, (fun x => ⟨Or.inl, fun q => q.elim id (fun z => by exfalso; omega)⟩), fun _ _ _ => rfl⟩
  · refine v_iload_n C 1 dX9_addOdd_5 rfl rfl ?_
    refine v_iload_n C 3 dX9_addOdd_6 rfl rfl ?_
    refine b_icmp_gt C 30 dX9_addOdd_7 (by decide) hmm (rfl : Int32.toInt b = _) (fun c2 => ?_) (fun c2 => ?_)
    · exact v_vret C dX9_addOdd_30 rfl ⟨im, od, M, fun _ _ => rfl, hM, by omega, h68, h97, (fun x => ⟨Or.inl, fun q => q.elim id (fun z => by exfalso; omega)⟩), fun _ _ _ => rfl⟩
    · refine v_aload_n C 0 dX9_addOdd_10 rfl rfl ?_
      refine v_getr C 68 dX9_addOdd_11 fX9_113 (by omega) h68 rfl rfl ?_
      refine v_aload_n C 0 dX9_addOdd_14 rfl rfl ?_
      refine v_geti (v := im 41) C 68 dX9_addOdd_15 fX9_265 (by omega) h68 rfl rfl ?_
      refine v_iload_n C 1 dX9_addOdd_18 rfl rfl ?_
      refine v_ast C 97 dX9_addOdd_19 (by omega) h97 (ti_in hM (by omega) (by omega)) (fun E3 hE3_97 oE3 => ?_)
      rw [ti_cl hM, show Int.toNat (M : Int) = M by omega] at hE3_97
      have hE3_68 := (oE3 68 (by decide)).trans h68
      refine v_aload_n C 0 dX9_addOdd_20 rfl rfl ?_
      refine v_dup C dX9_addOdd_21 rfl ?_
      refine v_geti (v := im 41) C 68 dX9_addOdd_22 fX9_265 (by omega) hE3_68 rfl rfl ?_
      refine v_iconst (v := 1) C dX9_addOdd_25 (by decide) ?_
      refine v_iadd C dX9_addOdd_26 ?_
      refine v_top (fun x4 ex4 => ?_)
      have hx4 : x4.toInt = ((M : Int) + 1) := by rw [ex4]; exact ti_add hM (show (1 : Int32).toInt = 1 by decide) (by omega) (by omega)
      refine v_puti C 68 dX9_addOdd_27 fX9_265 (by omega) hE3_68 rfl rfl rfl rfl (fun E5 hE5_68 oE5 => ?_)
      have hE5_97 := (oE5 97 (by decide)).trans hE3_97
      exact v_vret C dX9_addOdd_30 rfl ⟨_, _, M + 1, (fun q hq => if_neg hq), (show Int32.toInt x4 = ((M + 1 : Nat) : Int) by have := hx4; omega), Nat.le_refl _, hE5_68, hE5_97, (fun x => by rw [inS_push, hmm]; constructor; (rintro (q | q); exact Or.inl q; exact Or.inr ⟨q, by omega, by omega⟩); (rintro (q | q); exact Or.inl q; exact Or.inr q.1)), fun j g1 g2 => ((oE5 j (by omega)).trans (oE3 j (by omega)))⟩

set_option maxRecDepth 20000 in
theorem y_sink (l : Launch) (G : Gl) (n : Nat) (ad : Nat → Nat) (E : Nat → va_E) (hn : 98 ≤ n) {im : Nat → Int32} (h68 : E 68 = ob 9 (rX9 ad) im) {od : Nat → Int32} (h97 : E 97 = aI G 40000 od) {lo nn : Nat} (hnn : nn ≤ 40000) (hlo4 : lo ≤ 40000) (hp0 : hpO od lo nn lo) (hg0 : hpG od lo nn lo) (f : Int32) (g : Int32) (hf : f.toInt = (lo : Int)) (hg : g.toInt = (nn : Int)) : CtV l G yX9_sink cX9_sink 7 0 0 (n) ad E [.ref (ad 68), .int f, .int g] (fun E' => ∃ o2 : Nat → Int32, E' 97 = aI G 40000 o2 ∧ (∀ m, inS o2 nn m ↔ inS od nn m) ∧ (∀ j, nn ≤ j → o2 j = od j) ∧ hpF o2 lo nn ∧ ∀ j, j ≠ 97 → E' j = E j) := by
  refine CtV.of (by decide) (Nat.le_of_ble_eq_true rfl) (fun X A C => ?_)
  refine v_sub (lv' := [(0, .ref (ad 68)), (1, .int f), (2, .int g)]) [0, 1, 2] rfl ?_
  refine v_iload_n C 1 dX9_sink_0 rfl rfl ?_
  refine v_istore_n (lv' := [(0, .ref (ad 68)), (1, .int f), (2, .int g), (3, .int f)]) C [1, 2, 3, 0] dX9_sink_1 rfl (by decide) rfl ?_
  refine v_iconst (v := 1) C dX9_sink_2 (by decide) ?_
  refine v_istore (lv' := [(0, .ref (ad 68)), (1, .int f), (2, .int g), (3, .int f), (4, .int 1)]) C [1, 2, 3, 4, 0] dX9_sink_3 (by decide) rfl ?_
  have LP1 : ∀ (t : Nat) (k1 : Nat) (y2 : Int32) (E3 : Nat → va_E) (o1 : Nat → Int32), (y2.toInt = (k1 : Int)) → (E3 97 = aI G 40000 o1) → (∀ j, j ≠ 97 → E3 j = E j) → (lo ≤ k1) → (k1 ≤ 40000) → (hpO o1 lo nn k1) → (hpG o1 lo nn k1) → (∀ m, inS o1 nn m ↔ inS od nn m) → (∀ j, nn ≤ j → o1 j = od j) → 80001 - (k1 : Int) < (t : Int) → V X G A 7 (QV X G A (n) ad (fun E' => ∃ o2 : Nat → Int32, E' 97 = aI G 40000 o2 ∧ (∀ m, inS o2 nn m ↔ inS od nn m) ∧ (∀ j, nn ≤ j → o2 j = od j) ∧ hpF o2 lo nn ∧ ∀ j, j ≠ 97 → E' j = E j)) (n) ad 0 0 E3 5 [(0, .ref (ad 68)), (2, .int g), (3, .int y2), (4, .int 1)] [] := by
    intro t5
    induction t5 with
    | zero => intro k1 y2 E3 o1 hy2 hE3_97 hfr4 hlo hk4 hpx hgx hin hge hm7; exfalso; omega
    | succ t5 ih6 =>
      intro k1 y2 E3 o1 hy2 hE3_97 hfr4 hlo hk4 hpx hgx hin hge hm7
      have hE3_68 := (hfr4 68 (by decide)).trans h68
      refine v_iload C 3 dX9_sink_5 rfl ?_
      refine b_if_eq C 128 dX9_sink_7 (by decide) (show (1 : Int32).toInt = 1 by decide) (fun c8 => absurd c8 (by decide)) (fun c8 => ?_)
      refine v_iconst (v := 2) C dX9_sink_10 (by decide) ?_
      refine v_iload_n C 2 dX9_sink_11 rfl rfl ?_
      refine v_imul C dX9_sink_12 ?_
      refine v_top (fun x9 ex9 => ?_)
      have hx9 : x9.toInt = (2 * (k1 : Int)) := by rw [ex9]; exact ti_mul (show (2 : Int32).toInt = 2 by decide) hy2 (by omega) (by omega)
      refine v_iconst (v := 1) C dX9_sink_13 (by decide) ?_
      refine v_iadd C dX9_sink_14 ?_
      refine v_top (fun x10 ex10 => ?_)
      have hx10 : x10.toInt = ((2 * (k1 : Int)) + 1) := by rw [ex10]; exact ti_add hx9 (show (1 : Int32).toInt = 1 by decide) (by omega) (by omega)
      refine v_iload_n C 1 dX9_sink_15 rfl rfl ?_
      refine b_icmp_ge C 128 dX9_sink_16 (by decide) hx10 hg (fun c11 => ?_) (fun c11 => ?_)
      · exact v_vret C dX9_sink_128 rfl ⟨o1, hE3_97, hin, hge, hp_done hpx (fun q => by exfalso; omega) (fun q => by exfalso; omega), fun j hj => hfr4 j hj⟩
      · refine v_iconst (v := 2) C dX9_sink_19 (by decide) ?_
        refine v_iload_n C 2 dX9_sink_20 rfl rfl ?_
        refine v_imul C dX9_sink_21 ?_
        refine v_top (fun x12 ex12 => ?_)
        have hx12 : x12.toInt = (2 * (k1 : Int)) := by rw [ex12]; exact ti_mul (show (2 : Int32).toInt = 2 by decide) hy2 (by omega) (by omega)
        refine v_iconst (v := 1) C dX9_sink_22 (by decide) ?_
        refine v_iadd C dX9_sink_23 ?_
        refine v_top (fun x13 ex13 => ?_)
        have hx13 : x13.toInt = ((2 * (k1 : Int)) + 1) := by rw [ex13]; exact ti_add hx12 (show (1 : Int32).toInt = 1 by decide) (by omega) (by omega)
        refine v_istore (lv' := [(0, .ref (ad 68)), (2, .int g), (3, .int y2), (4, .int 1), (5, .int x13)]) C [1, 2, 3, 4, 0] dX9_sink_24 (by decide) rfl ?_
        refine v_iload C 4 dX9_sink_26 rfl ?_
        refine v_iconst (v := 1) C dX9_sink_28 (by decide) ?_
        refine v_iadd C dX9_sink_29 ?_
        refine v_top (fun x14 ex14 => ?_)
        have hx14 : x14.toInt = (((2 * (k1 : Int)) + 1) + 1) := by rw [ex14]; exact ti_add hx13 (show (1 : Int32).toInt = 1 by decide) (by omega) (by omega)
        refine v_iload_n C 1 dX9_sink_30 rfl rfl ?_
        refine b_icmp_ge C 60 dX9_sink_31 (by decide) hx14 hg (fun c15 => ?_) (fun c15 => ?_)
        · refine v_iload C 4 dX9_sink_60 rfl ?_
          refine v_istore (lv' := [(0, .ref (ad 68)), (2, .int g), (3, .int y2), (4, .int 1), (5, .int x13)]) C [1, 2, 3, 4, 0] dX9_sink_62 (by decide) rfl ?_
          refine v_aload_n C 0 dX9_sink_64 rfl rfl ?_
          refine v_getr C 68 dX9_sink_65 fX9_113 (by omega) hE3_68 rfl rfl ?_
          refine v_iload C 4 dX9_sink_68 rfl ?_
          refine v_ald (v := o1 (2 * k1 + 1)) C 97 dX9_sink_70 (by omega) hE3_97 (ti_in hx13 (by omega) (by omega)) (by rw [ti_cl hx13, show Int.toNat ((2 * (k1 : Int)) + 1) = 2 * k1 + 1 by omega]) ?_
          refine v_aload_n C 0 dX9_sink_71 rfl rfl ?_
          refine v_getr C 68 dX9_sink_72 fX9_113 (by omega) hE3_68 rfl rfl ?_
          refine v_iload_n C 2 dX9_sink_75 rfl rfl ?_
          refine v_ald (v := o1 k1) C 97 dX9_sink_76 (by omega) hE3_97 (ti_in hy2 (by omega) (by omega)) (by rw [ti_cl hy2, show Int.toNat (k1 : Int) = k1 by omega]) ?_
          refine b_icmp_le C 84 dX9_sink_77 (by decide) (rfl : Int32.toInt (o1 (2 * k1 + 1)) = _) (rfl : Int32.toInt (o1 k1) = _) (fun c16 => ?_) (fun c16 => ?_)
          · refine v_iconst (v := 0) C dX9_sink_84 (by decide) ?_
            refine v_istore (lv' := [(0, .ref (ad 68)), (2, .int g), (3, .int y2), (4, .int 0), (5, .int x13)]) C [1, 2, 3, 0, 4] dX9_sink_85 (by decide) rfl ?_
            refine v_iload C 3 dX9_sink_87 rfl ?_
            refine b_if_eq C 125 dX9_sink_89 (by decide) (show (0 : Int32).toInt = 0 by decide) (fun c17 => ?_) (fun c17 => absurd c17 (by decide))
            refine v_goto C 5 dX9_sink_125 (by decide) ?_
            refine v_iload C 3 dX9_sink_5 rfl ?_
            refine b_if_eq C 128 dX9_sink_7 (by decide) (show (0 : Int32).toInt = 0 by decide) (fun c18 => ?_) (fun c18 => absurd c18 (by decide))
            exact v_vret C dX9_sink_128 rfl ⟨o1, hE3_97, hin, hge, hp_done hpx (fun _ => by omega) (fun q => by exfalso; omega), fun j hj => hfr4 j hj⟩
          · refine v_iconst (v := 1) C dX9_sink_80 (by decide) ?_
            refine v_goto C 85 dX9_sink_81 (by decide) ?_
            refine v_istore (lv' := [(0, .ref (ad 68)), (2, .int g), (3, .int y2), (4, .int 1), (5, .int x13)]) C [1, 2, 3, 0, 4] dX9_sink_85 (by decide) rfl ?_
            refine v_iload C 3 dX9_sink_87 rfl ?_
            refine b_if_eq C 125 dX9_sink_89 (by decide) (show (1 : Int32).toInt = 1 by decide) (fun c19 => absurd c19 (by decide)) (fun c19 => ?_)
            have hst := hp_step (c := 2 * k1 + 1) hlo hpx hgx (by omega) (by omega) (fun _ => by omega) (fun q => by exfalso; omega) (by omega)
            refine v_aload_n C 0 dX9_sink_92 rfl rfl ?_
            refine v_getr C 68 dX9_sink_93 fX9_113 (by omega) hE3_68 rfl rfl ?_
            refine v_iload C 4 dX9_sink_96 rfl ?_
            refine v_ald (v := o1 (2 * k1 + 1)) C 97 dX9_sink_98 (by omega) hE3_97 (ti_in hx13 (by omega) (by omega)) (by rw [ti_cl hx13, show Int.toNat ((2 * (k1 : Int)) + 1) = 2 * k1 + 1 by omega]) ?_
            refine v_istore (lv' := [(0, .ref (ad 68)), (2, .int g), (3, .int y2), (4, .int 1), (5, .int x13), (6, .int (o1 (2 * k1 + 1)))]) C [1, 2, 3, 4, 5, 0] dX9_sink_99 (by decide) rfl ?_
            refine v_aload_n C 0 dX9_sink_101 rfl rfl ?_
            refine v_getr C 68 dX9_sink_102 fX9_113 (by omega) hE3_68 rfl rfl ?_
            refine v_iload C 4 dX9_sink_105 rfl ?_
            refine v_aload_n C 0 dX9_sink_107 rfl rfl ?_
            refine v_getr C 68 dX9_sink_108 fX9_113 (by omega) hE3_68 rfl rfl ?_
            refine v_iload_n C 2 dX9_sink_111 rfl rfl ?_
            refine v_ald (v := o1 k1) C 97 dX9_sink_112 (by omega) hE3_97 (ti_in hy2 (by omega) (by omega)) (by rw [ti_cl hy2, show Int.toNat (k1 : Int) = k1 by omega]) ?_
            refine v_ast C 97 dX9_sink_113 (by omega) hE3_97 (ti_in hx13 (by omega) (by omega)) (fun E20 hE20_97 oE20 => ?_)
            rw [ti_cl hx13, show Int.toNat ((2 * (k1 : Int)) + 1) = 2 * k1 + 1 by omega] at hE20_97
            have hE20_68 := (oE20 68 (by decide)).trans hE3_68
            refine v_aload_n C 0 dX9_sink_114 rfl rfl ?_
            refine v_getr C 68 dX9_sink_115 fX9_113 (by omega) hE20_68 rfl rfl ?_
            refine v_iload_n C 2 dX9_sink_118 rfl rfl ?_
            refine v_iload C 5 dX9_sink_119 rfl ?_
            refine v_ast C 97 dX9_sink_121 (by omega) hE20_97 (ti_in hy2 (by omega) (by omega)) (fun E21 hE21_97 oE21 => ?_)
            rw [ti_cl hy2, show Int.toNat (k1 : Int) = k1 by omega] at hE21_97
            have hE21_68 := (oE21 68 (by decide)).trans hE20_68
            refine v_iload C 4 dX9_sink_122 rfl ?_
            refine v_istore_n (lv' := [(0, .ref (ad 68)), (2, .int g), (3, .int x13), (4, .int 1), (5, .int x13), (6, .int (o1 (2 * k1 + 1)))]) C [1, 2, 0, 3, 4, 5] dX9_sink_124 rfl (by decide) rfl ?_
            refine v_goto C 5 dX9_sink_125 (by decide) ?_
            refine v_sub (lv' := [(0, .ref (ad 68)), (2, .int g), (3, .int x13), (4, .int 1)]) [0, 1, 2, 3] rfl ?_
            exact ih6 (2 * k1 + 1) x13 E21 (upd (upd o1 (2 * k1 + 1) (o1 k1)) k1 (o1 (2 * k1 + 1))) (show Int32.toInt x13 = ((2 * k1 + 1 : Nat) : Int) by have := hx13; omega) hE21_97 (fun j g0 => ((oE21 j g0).trans ((oE20 j g0).trans (hfr4 j g0)))) (by omega) (by omega) (hst.1) (hst.2) (fun m => (inS_swap (by omega) (by omega)).trans (hin m)) (fun j hj => by rw [upd_ne (by omega), upd_ne (by omega)]; exact hge j hj) (by omega)
        · refine v_aload_n C 0 dX9_sink_34 rfl rfl ?_
          refine v_getr C 68 dX9_sink_35 fX9_113 (by omega) hE3_68 rfl rfl ?_
          refine v_iload C 4 dX9_sink_38 rfl ?_
          refine v_iconst (v := 1) C dX9_sink_40 (by decide) ?_
          refine v_iadd C dX9_sink_41 ?_
          refine v_top (fun x22 ex22 => ?_)
          have hx22 : x22.toInt = (((2 * (k1 : Int)) + 1) + 1) := by rw [ex22]; exact ti_add hx13 (show (1 : Int32).toInt = 1 by decide) (by omega) (by omega)
          refine v_ald (v := o1 (2 * k1 + 2)) C 97 dX9_sink_42 (by omega) hE3_97 (ti_in hx22 (by omega) (by omega)) (by rw [ti_cl hx22, show Int.toNat (((2 * (k1 : Int)) + 1) + 1) = 2 * k1 + 2 by omega]) ?_
          refine v_aload_n C 0 dX9_sink_43 rfl rfl ?_
          refine v_getr C 68 dX9_sink_44 fX9_113 (by omega) hE3_68 rfl rfl ?_
          refine v_iload C 4 dX9_sink_47 rfl ?_
          refine v_ald (v := o1 (2 * k1 + 1)) C 97 dX9_sink_49 (by omega) hE3_97 (ti_in hx13 (by omega) (by omega)) (by rw [ti_cl hx13, show Int.toNat ((2 * (k1 : Int)) + 1) = 2 * k1 + 1 by omega]) ?_
          refine b_icmp_le C 60 dX9_sink_50 (by decide) (rfl : Int32.toInt (o1 (2 * k1 + 2)) = _) (rfl : Int32.toInt (o1 (2 * k1 + 1)) = _) (fun c23 => ?_) (fun c23 => ?_)
          · refine v_iload C 4 dX9_sink_60 rfl ?_
            refine v_istore (lv' := [(0, .ref (ad 68)), (2, .int g), (3, .int y2), (4, .int 1), (5, .int x13)]) C [1, 2, 3, 4, 0] dX9_sink_62 (by decide) rfl ?_
            refine v_aload_n C 0 dX9_sink_64 rfl rfl ?_
            refine v_getr C 68 dX9_sink_65 fX9_113 (by omega) hE3_68 rfl rfl ?_
            refine v_iload C 4 dX9_sink_68 rfl ?_
            refine v_ald (v := o1 (2 * k1 + 1)) C 97 dX9_sink_70 (by omega) hE3_97 (ti_in hx13 (by omega) (by omega)) (by rw [ti_cl hx13, show Int.toNat ((2 * (k1 : Int)) + 1) = 2 * k1 + 1 by omega]) ?_
            refine v_aload_n C 0 dX9_sink_71 rfl rfl ?_
            refine v_getr C 68 dX9_sink_72 fX9_113 (by omega) hE3_68 rfl rfl ?_
            refine v_iload_n C 2 dX9_sink_75 rfl rfl ?_
            refine v_ald (v := o1 k1) C 97 dX9_sink_76 (by omega) hE3_97 (ti_in hy2 (by omega) (by omega)) (by rw [ti_cl hy2, show Int.toNat (k1 : Int) = k1 by omega]) ?_
            refine b_icmp_le C 84 dX9_sink_77 (by decide) (rfl : Int32.toInt (o1 (2 * k1 + 1)) = _) (rfl : Int32.toInt (o1 k1) = _) (fun c24 => ?_) (fun c24 => ?_)
            · refine v_iconst (v := 0) C dX9_sink_84 (by decide) ?_
              refine v_istore (lv' := [(0, .ref (ad 68)), (2, .int g), (3, .int y2), (4, .int 0), (5, .int x13)]) C [1, 2, 3, 0, 4] dX9_sink_85 (by decide) rfl ?_
              refine v_iload C 3 dX9_sink_87 rfl ?_
              refine b_if_eq C 125 dX9_sink_89 (by decide) (show (0 : Int32).toInt = 0 by decide) (fun c25 => ?_) (fun c25 => absurd c25 (by decide))
              refine v_goto C 5 dX9_sink_125 (by decide) ?_
              refine v_iload C 3 dX9_sink_5 rfl ?_
              refine b_if_eq C 128 dX9_sink_7 (by decide) (show (0 : Int32).toInt = 0 by decide) (fun c26 => ?_) (fun c26 => absurd c26 (by decide))
              exact v_vret C dX9_sink_128 rfl ⟨o1, hE3_97, hin, hge, hp_done hpx (fun _ => by omega) (fun q => by omega), fun j hj => hfr4 j hj⟩
            · refine v_iconst (v := 1) C dX9_sink_80 (by decide) ?_
              refine v_goto C 85 dX9_sink_81 (by decide) ?_
              refine v_istore (lv' := [(0, .ref (ad 68)), (2, .int g), (3, .int y2), (4, .int 1), (5, .int x13)]) C [1, 2, 3, 0, 4] dX9_sink_85 (by decide) rfl ?_
              refine v_iload C 3 dX9_sink_87 rfl ?_
              refine b_if_eq C 125 dX9_sink_89 (by decide) (show (1 : Int32).toInt = 1 by decide) (fun c27 => absurd c27 (by decide)) (fun c27 => ?_)
              have hst := hp_step (c := 2 * k1 + 1) hlo hpx hgx (by omega) (by omega) (fun _ => by omega) (fun q => by omega) (by omega)
              refine v_aload_n C 0 dX9_sink_92 rfl rfl ?_
              refine v_getr C 68 dX9_sink_93 fX9_113 (by omega) hE3_68 rfl rfl ?_
              refine v_iload C 4 dX9_sink_96 rfl ?_
              refine v_ald (v := o1 (2 * k1 + 1)) C 97 dX9_sink_98 (by omega) hE3_97 (ti_in hx13 (by omega) (by omega)) (by rw [ti_cl hx13, show Int.toNat ((2 * (k1 : Int)) + 1) = 2 * k1 + 1 by omega]) ?_
              refine v_istore (lv' := [(0, .ref (ad 68)), (2, .int g), (3, .int y2), (4, .int 1), (5, .int x13), (6, .int (o1 (2 * k1 + 1)))]) C [1, 2, 3, 4, 5, 0] dX9_sink_99 (by decide) rfl ?_
              refine v_aload_n C 0 dX9_sink_101 rfl rfl ?_
              refine v_getr C 68 dX9_sink_102 fX9_113 (by omega) hE3_68 rfl rfl ?_
              refine v_iload C 4 dX9_sink_105 rfl ?_
              refine v_aload_n C 0 dX9_sink_107 rfl rfl ?_
              refine v_getr C 68 dX9_sink_108 fX9_113 (by omega) hE3_68 rfl rfl ?_
              refine v_iload_n C 2 dX9_sink_111 rfl rfl ?_
              refine v_ald (v := o1 k1) C 97 dX9_sink_112 (by omega) hE3_97 (ti_in hy2 (by omega) (by omega)) (by rw [ti_cl hy2, show Int.toNat (k1 : Int) = k1 by omega]) ?_
              refine v_ast C 97 dX9_sink_113 (by omega) hE3_97 (ti_in hx13 (by omega) (by omega)) (fun E28 hE28_97 oE28 => ?_)
              rw [ti_cl hx13, show Int.toNat ((2 * (k1 : Int)) + 1) = 2 * k1 + 1 by omega] at hE28_97
              have hE28_68 := (oE28 68 (by decide)).trans hE3_68
              refine v_aload_n C 0 dX9_sink_114 rfl rfl ?_
              refine v_getr C 68 dX9_sink_115 fX9_113 (by omega) hE28_68 rfl rfl ?_
              refine v_iload_n C 2 dX9_sink_118 rfl rfl ?_
              refine v_iload C 5 dX9_sink_119 rfl ?_
              refine v_ast C 97 dX9_sink_121 (by omega) hE28_97 (ti_in hy2 (by omega) (by omega)) (fun E29 hE29_97 oE29 => ?_)
              rw [ti_cl hy2, show Int.toNat (k1 : Int) = k1 by omega] at hE29_97
              have hE29_68 := (oE29 68 (by decide)).trans hE28_68
              refine v_iload C 4 dX9_sink_122 rfl ?_
              refine v_istore_n (lv' := [(0, .ref (ad 68)), (2, .int g), (3, .int x13), (4, .int 1), (5, .int x13), (6, .int (o1 (2 * k1 + 1)))]) C [1, 2, 0, 3, 4, 5] dX9_sink_124 rfl (by decide) rfl ?_
              refine v_goto C 5 dX9_sink_125 (by decide) ?_
              refine v_sub (lv' := [(0, .ref (ad 68)), (2, .int g), (3, .int x13), (4, .int 1)]) [0, 1, 2, 3] rfl ?_
              exact ih6 (2 * k1 + 1) x13 E29 (upd (upd o1 (2 * k1 + 1) (o1 k1)) k1 (o1 (2 * k1 + 1))) (show Int32.toInt x13 = ((2 * k1 + 1 : Nat) : Int) by have := hx13; omega) hE29_97 (fun j g0 => ((oE29 j g0).trans ((oE28 j g0).trans (hfr4 j g0)))) (by omega) (by omega) (hst.1) (hst.2) (fun m => (inS_swap (by omega) (by omega)).trans (hin m)) (fun j hj => by rw [upd_ne (by omega), upd_ne (by omega)]; exact hge j hj) (by omega)
          · refine v_iload C 4 dX9_sink_53 rfl ?_
            refine v_iconst (v := 1) C dX9_sink_55 (by decide) ?_
            refine v_iadd C dX9_sink_56 ?_
            refine v_top (fun x30 ex30 => ?_)
            have hx30 : x30.toInt = (((2 * (k1 : Int)) + 1) + 1) := by rw [ex30]; exact ti_add hx13 (show (1 : Int32).toInt = 1 by decide) (by omega) (by omega)
            refine v_goto C 62 dX9_sink_57 (by decide) ?_
            refine v_istore (lv' := [(0, .ref (ad 68)), (2, .int g), (3, .int y2), (4, .int 1), (5, .int x30)]) C [1, 2, 3, 4, 0] dX9_sink_62 (by decide) rfl ?_
            refine v_aload_n C 0 dX9_sink_64 rfl rfl ?_
            refine v_getr C 68 dX9_sink_65 fX9_113 (by omega) hE3_68 rfl rfl ?_
            refine v_iload C 4 dX9_sink_68 rfl ?_
            refine v_ald (v := o1 (2 * k1 + 2)) C 97 dX9_sink_70 (by omega) hE3_97 (ti_in hx30 (by omega) (by omega)) (by rw [ti_cl hx30, show Int.toNat (((2 * (k1 : Int)) + 1) + 1) = 2 * k1 + 2 by omega]) ?_
            refine v_aload_n C 0 dX9_sink_71 rfl rfl ?_
            refine v_getr C 68 dX9_sink_72 fX9_113 (by omega) hE3_68 rfl rfl ?_
            refine v_iload_n C 2 dX9_sink_75 rfl rfl ?_
            refine v_ald (v := o1 k1) C 97 dX9_sink_76 (by omega) hE3_97 (ti_in hy2 (by omega) (by omega)) (by rw [ti_cl hy2, show Int.toNat (k1 : Int) = k1 by omega]) ?_
            refine b_icmp_le C 84 dX9_sink_77 (by decide) (rfl : Int32.toInt (o1 (2 * k1 + 2)) = _) (rfl : Int32.toInt (o1 k1) = _) (fun c31 => ?_) (fun c31 => ?_)
            · refine v_iconst (v := 0) C dX9_sink_84 (by decide) ?_
              refine v_istore (lv' := [(0, .ref (ad 68)), (2, .int g), (3, .int y2), (4, .int 0), (5, .int x30)]) C [1, 2, 3, 0, 4] dX9_sink_85 (by decide) rfl ?_
              refine v_iload C 3 dX9_sink_87 rfl ?_
              refine b_if_eq C 125 dX9_sink_89 (by decide) (show (0 : Int32).toInt = 0 by decide) (fun c32 => ?_) (fun c32 => absurd c32 (by decide))
              refine v_goto C 5 dX9_sink_125 (by decide) ?_
              refine v_iload C 3 dX9_sink_5 rfl ?_
              refine b_if_eq C 128 dX9_sink_7 (by decide) (show (0 : Int32).toInt = 0 by decide) (fun c33 => ?_) (fun c33 => absurd c33 (by decide))
              exact v_vret C dX9_sink_128 rfl ⟨o1, hE3_97, hin, hge, hp_done hpx (fun _ => by omega) (fun q => by omega), fun j hj => hfr4 j hj⟩
            · refine v_iconst (v := 1) C dX9_sink_80 (by decide) ?_
              refine v_goto C 85 dX9_sink_81 (by decide) ?_
              refine v_istore (lv' := [(0, .ref (ad 68)), (2, .int g), (3, .int y2), (4, .int 1), (5, .int x30)]) C [1, 2, 3, 0, 4] dX9_sink_85 (by decide) rfl ?_
              refine v_iload C 3 dX9_sink_87 rfl ?_
              refine b_if_eq C 125 dX9_sink_89 (by decide) (show (1 : Int32).toInt = 1 by decide) (fun c34 => absurd c34 (by decide)) (fun c34 => ?_)
              have hst := hp_step (c := 2 * k1 + 2) hlo hpx hgx (by omega) (by omega) (fun _ => by omega) (fun q => by omega) (by omega)
              refine v_aload_n C 0 dX9_sink_92 rfl rfl ?_
              refine v_getr C 68 dX9_sink_93 fX9_113 (by omega) hE3_68 rfl rfl ?_
              refine v_iload C 4 dX9_sink_96 rfl ?_
              refine v_ald (v := o1 (2 * k1 + 2)) C 97 dX9_sink_98 (by omega) hE3_97 (ti_in hx30 (by omega) (by omega)) (by rw [ti_cl hx30, show Int.toNat (((2 * (k1 : Int)) + 1) + 1) = 2 * k1 + 2 by omega]) ?_
              refine v_istore (lv' := [(0, .ref (ad 68)), (2, .int g), (3, .int y2), (4, .int 1), (5, .int x30), (6, .int (o1 (2 * k1 + 2)))]) C [1, 2, 3, 4, 5, 0] dX9_sink_99 (by decide) rfl ?_
              refine v_aload_n C 0 dX9_sink_101 rfl rfl ?_
              refine v_getr C 68 dX9_sink_102 fX9_113 (by omega) hE3_68 rfl rfl ?_
              refine v_iload C 4 dX9_sink_105 rfl ?_
              refine v_aload_n C 0 dX9_sink_107 rfl rfl ?_
              refine v_getr C 68 dX9_sink_108 fX9_113 (by omega) hE3_68 rfl rfl ?_
              refine v_iload_n C 2 dX9_sink_111 rfl rfl ?_
              refine v_ald (v := o1 k1) C 97 dX9_sink_112 (by omega) hE3_97 (ti_in hy2 (by omega) (by omega)) (by rw [ti_cl hy2, show Int.toNat (k1 : Int) = k1 by omega]) ?_
              refine v_ast C 97 dX9_sink_113 (by omega) hE3_97 (ti_in hx30 (by omega) (by omega)) (fun E35 hE35_97 oE35 => ?_)
              rw [ti_cl hx30, show Int.toNat (((2 * (k1 : Int)) + 1) + 1) = 2 * k1 + 2 by omega] at hE35_97
              have hE35_68 := (oE35 68 (by decide)).trans hE3_68
              refine v_aload_n C 0 dX9_sink_114 rfl rfl ?_
              refine v_getr C 68 dX9_sink_115 fX9_113 (by omega) hE35_68 rfl rfl ?_
              refine v_iload_n C 2 dX9_sink_118 rfl rfl ?_
              refine v_iload C 5 dX9_sink_119 rfl ?_
              refine v_ast C 97 dX9_sink_121 (by omega) hE35_97 (ti_in hy2 (by omega) (by omega)) (fun E36 hE36_97 oE36 => ?_)
              rw [ti_cl hy2, show Int.toNat (k1 : Int) = k1 by omega] at hE36_97
              have hE36_68 := (oE36 68 (by decide)).trans hE35_68
              refine v_iload C 4 dX9_sink_122 rfl ?_
              refine v_istore_n (lv' := [(0, .ref (ad 68)), (2, .int g), (3, .int x30), (4, .int 1), (5, .int x30), (6, .int (o1 (2 * k1 + 2)))]) C [1, 2, 0, 3, 4, 5] dX9_sink_124 rfl (by decide) rfl ?_
              refine v_goto C 5 dX9_sink_125 (by decide) ?_
              refine v_sub (lv' := [(0, .ref (ad 68)), (2, .int g), (3, .int x30), (4, .int 1)]) [0, 1, 2, 3] rfl ?_
              exact ih6 (2 * k1 + 2) x30 E36 (upd (upd o1 (2 * k1 + 2) (o1 k1)) k1 (o1 (2 * k1 + 2))) (show Int32.toInt x30 = ((2 * k1 + 2 : Nat) : Int) by have := hx30; omega) hE36_97 (fun j g0 => ((oE36 j g0).trans ((oE35 j g0).trans (hfr4 j g0)))) (by omega) (by omega) (hst.1) (hst.2) (fun m => (inS_swap (by omega) (by omega)).trans (hin m)) (fun j hj => by rw [upd_ne (by omega), upd_ne (by omega)]; exact hge j hj) (by omega)
  refine v_sub (lv' := [(0, .ref (ad 68)), (2, .int g), (3, .int f), (4, .int 1)]) [0, 2, 3, 4] rfl ?_
  exact LP1 100000 lo f E od (show Int32.toInt f = ((lo : Nat) : Int) by have := hf; omega) h97 (fun j _ => rfl) (by omega) (by omega) (hp0) (hg0) (fun m => Iff.rfl) (fun j _ => rfl) (by omega)

set_option maxRecDepth 20000 in
theorem y_findOdds (l : Launch) (G : Gl) (n : Nat) (ad : Nat → Nat) (E : Nat → va_E) (hn : 98 ≤ n) {im ic md : Nat → Int32} (hW : MCal G ad E im ic md) {rf rto ron rat rbe rtd rm fv : Nat → Int32} (hR : ZMr G E rf rto ron rat rbe rtd rm fv) {TT : Nat → TST} (hS : ZMs G E 5 TT) (hTT : ∀ z, z < 5 → TT z = TTz ic md rf rto ron rat rbe rtd rm fv (im 18).toInt z) (hV : ∀ z, z < 5 → RZv ic rf rto ron rat rbe rtd rm fv z) {od : Nat → Int32} (h97 : E 97 = aI G 40000 od) {k : Nat} (hk : (im 16).toInt = (k : Int)) (hk5 : k ≤ 5) (a : Int32) (b : Int32) (hok : okOD a.toInt b.toInt) : CtV l G yX9_findOdds cX9_findOdds 8 5 123 (n) ad E [.ref (ad 68), .int a, .int b] (fun E' => ∃ (im1 od1 : Nat → Int32) (L : Nat), (∀ q, q ≠ 7 → q ≠ 41 → im1 q = im q) ∧ (im1 41).toInt = (L : Int) ∧ L ≤ 26002 ∧ MCal G ad E' im1 ic md ∧ ZMs G E' 5 TT ∧ E' 97 = aI G 40000 od1 ∧ isEn (isOd k TT (YSf md (ic 4).toInt (ic 5).toInt 100) a.toInt b.toInt) L (fun i => (od1 i).toInt) ∧ ∀ j, j ≠ 68 → j ≠ 70 → (j < 79 ∨ 84 < j) → j ≠ 97 → E' j = E j) := by
  refine CtV.of (by decide) (Nat.le_of_ble_eq_true rfl) (fun X A C => ?_)
  refine v_sub (lv' := [(0, .ref (ad 68)), (1, .int a), (2, .int b)]) [0, 1, 2] rfl ?_
  have hP := hW.2.1
  have h68 := hW.2.2.1
  have hcy := cal_y hP
  have h8T : ∀ z, z < 5 → (TT z).1 ≤ 800 := fun z hz => by rw [hTT z hz]; exact (TTz_ok hP (hV z hz)).2
  have hokT : ∀ z, z < 5 → okT 69300000 (TT z) := fun z hz => by rw [hTT z hz]; exact (TTz_ok hP (hV z hz)).1
  unfold okOD at hok
  refine v_aload_n C 0 dX9_findOdds_0 rfl rfl ?_
  refine v_iconst (v := 0) C dX9_findOdds_1 (by decide) ?_
  refine v_puti C 68 dX9_findOdds_2 fX9_265 (by omega) h68 rfl rfl rfl rfl (fun E1 hE1_68 oE1 => ?_)
  have hE1_97 := (oE1 97 (by decide)).trans h97
  have hW2 := hW.up (k := 41) (by decide) hE1_68 (fun j hj => oE1 j hj)
  have hT2 : ∀ z, z < 5 → TT z = TTz ic md rf rto ron rat rbe rtd rm fv ((va_up im 41 0) 18).toInt z := hTT
  have hI2 : ∀ q, q ≠ 7 → q ≠ 41 → (va_up im 41 0) q = im q := fun q g1 g2 => (if_neg (by omega)).trans ((fun _ _ _ => rfl) q g1 g2)
  have hR2 := hR.go (fun j _ _ => oE1 j (by omega))
  have hS2 := hS.go (fun j _ _ => oE1 j (by omega))
  refine v_aload_n C 0 dX9_findOdds_5 rfl rfl ?_
  refine v_iload_n C 1 dX9_findOdds_6 rfl rfl ?_
  refine v_iload_n C 1 dX9_findOdds_7 rfl rfl ?_
  refine v_iload_n C 2 dX9_findOdds_8 rfl rfl ?_
  refine v_cVv C dX9_findOdds_9 lX9_268 mX9_addOdd 68 (by omega) hE1_68 (by decide) rfl (y_addOdd l G n ad _ hn hE1_68 hE1_97 (M := 0) (show (0 : Int32).toInt = ((0 : Nat) : Int) by decide) (by omega) a a b (rfl : Int32.toInt a = _)) ⟨by decide, by decide⟩ rfl (Nat.le_of_ble_eq_true rfl) ⟨Nat.zero_le _, Nat.zero_le _⟩ (fun E3 hq4 => ?_)
  obtain ⟨im5, od5, M5, u15, u25, u35, u45, u55, u65, u75⟩ := hq4
  have hW5 := hW2.same (fun q hq => u15 q (by omega)) u45 (u75 69 (by decide) (by decide)) (u75 70 (by decide) (by decide))
  have hR5 := hR2.go (fun j g1 g2 => u75 j (by omega) (by omega))
  have hS5 := hS2.go (fun j g1 g2 => u75 j (by omega) (by omega))
  have hT5 : ∀ z, z < 5 → TT z = TTz ic md rf rto ron rat rbe rtd rm fv (im5 18).toInt z := fun z hz => by rw [u15 18 (by decide)]; exact hT2 z hz
  have hI5 : ∀ q, q ≠ 7 → q ≠ 41 → im5 q = im q := fun q g1 g2 => (u15 q g2).trans (hI2 q g1 g2)
  have h165 : (im5 16).toInt = (k : Int) := by rw [hI5 16 (by decide) (by decide)]; exact hk
  refine v_aload_n C 0 dX9_findOdds_12 rfl rfl ?_
  refine v_iload_n C 2 dX9_findOdds_13 rfl rfl ?_
  refine v_iload_n C 1 dX9_findOdds_14 rfl rfl ?_
  refine v_iload_n C 2 dX9_findOdds_15 rfl rfl ?_
  refine v_cVv C dX9_findOdds_16 lX9_268 mX9_addOdd 68 (by omega) u45 (by decide) rfl (y_addOdd l G n ad _ hn u45 u55 (M := M5) u25 (by omega) b a b (rfl : Int32.toInt b = _)) ⟨by decide, by decide⟩ rfl (Nat.le_of_ble_eq_true rfl) ⟨Nat.zero_le _, Nat.zero_le _⟩ (fun E6 hq7 => ?_)
  obtain ⟨im8, od8, M8, u18, u28, u38, u48, u58, u68, u78⟩ := hq7
  have hW8 := hW5.same (fun q hq => u18 q (by omega)) u48 (u78 69 (by decide) (by decide)) (u78 70 (by decide) (by decide))
  have hR8 := hR5.go (fun j g1 g2 => u78 j (by omega) (by omega))
  have hS8 := hS5.go (fun j g1 g2 => u78 j (by omega) (by omega))
  have hT8 : ∀ z, z < 5 → TT z = TTz ic md rf rto ron rat rbe rtd rm fv (im8 18).toInt z := fun z hz => by rw [u18 18 (by decide)]; exact hT5 z hz
  have hI8 : ∀ q, q ≠ 7 → q ≠ 41 → im8 q = im q := fun q g1 g2 => (u18 q g2).trans (hI5 q g1 g2)
  have h168 : (im8 16).toInt = (k : Int) := by rw [hI8 16 (by decide) (by decide)]; exact hk
  refine v_iconst (v := 0) C dX9_findOdds_19 (by decide) ?_
  refine v_istore_n (lv' := [(0, .ref (ad 68)), (1, .int a), (2, .int b), (3, .int 0)]) C [1, 2, 3, 0] dX9_findOdds_20 rfl (by decide) rfl ?_
  have LP9 : ∀ (t : Nat) (z1 : Nat) (y10 : Int32) (od1 : Nat → Int32) (M1 : Nat) (E11 : Nat → va_E), (y10.toInt = (z1 : Int)) → (OSt G ad E E11 im ic md TT od1 M1) → (z1 ≤ k) → (∀ x, inS od1 M1 x ↔ isOd z1 TT (YSf md (ic 4).toInt (ic 5).toInt 100) a.toInt b.toInt x) → (M1 ≤ 2 + 5200 * z1) → (k : Int) - (z1 : Int) < (t : Int) → V X G A 8 (QV X G A (n) ad (fun E' => ∃ (im1 od1 : Nat → Int32) (L : Nat), (∀ q, q ≠ 7 → q ≠ 41 → im1 q = im q) ∧ (im1 41).toInt = (L : Int) ∧ L ≤ 26002 ∧ MCal G ad E' im1 ic md ∧ ZMs G E' 5 TT ∧ E' 97 = aI G 40000 od1 ∧ isEn (isOd k TT (YSf md (ic 4).toInt (ic 5).toInt 100) a.toInt b.toInt) L (fun i => (od1 i).toInt) ∧ ∀ j, j ≠ 68 → j ≠ 70 → (j < 79 ∨ 84 < j) → j ≠ 97 → E' j = E j)) (n) ad 0 0 E11 21 [(0, .ref (ad 68)), (1, .int a), (2, .int b), (3, .int y10)] [] := by
    intro t14
    induction t14 with
    | zero => intro z1 y10 od1 M1 E11 hy10 hI12 hq13 hset hMb hm16; exfalso; omega
    | succ t14 ih15 =>
      intro z1 y10 od1 M1 E11 hy10 hI12 hq13 hset hMb hm16
      obtain ⟨imo, v1o, v2o, v3o, v4o, v5o, v6o⟩ := id hI12
      have e68o := v3o.2.2.1
      have hRo := hR.go (fun j g1 g2 => v6o j (by omega) (by omega) (by omega) (by omega))
      have hTo : ∀ z, z < 5 → TT z = TTz ic md rf rto ron rat rbe rtd rm fv (imo 18).toInt z := fun z hz => by rw [v1o 18 (by decide) (by decide)]; exact hTT z hz
      have h16o : (imo 16).toInt = (k : Int) := by rw [v1o 16 (by decide) (by decide)]; exact hk
      refine v_iload_n C 3 dX9_findOdds_21 rfl rfl ?_
      refine v_aload_n C 0 dX9_findOdds_22 rfl rfl ?_
      refine v_geti (v := imo 16) C 68 dX9_findOdds_23 fX9_135 (by omega) e68o rfl rfl ?_
      refine b_icmp_ge C 204 dX9_findOdds_26 (by decide) hy10 h16o (fun c17 => ?_) (fun c17 => ?_)
      · have hset9 : ∀ x, inS od1 M1 x ↔ isOd k TT (YSf md (ic 4).toInt (ic 5).toInt 100) a.toInt b.toInt x := by have hzk : z1 = k := (by omega); rw [← hzk]; exact hset
        have hM0 : 0 < M1 := by obtain ⟨i, hi, -⟩ := (hset9 a.toInt).mpr ⟨⟨by omega, by omega⟩, Or.inl rfl⟩; omega
        have hM26 : M1 ≤ 26002 := by omega
        refine v_aload_n C 0 dX9_findOdds_204 rfl rfl ?_
        refine v_geti (v := imo 41) C 68 dX9_findOdds_205 fX9_265 (by omega) e68o rfl rfl ?_
        refine v_iconst (v := 2) C dX9_findOdds_208 (by decide) ?_
        refine v_idiv C dX9_findOdds_209 (by decide) ?_
        refine v_top (fun x18 ex18 => ?_)
        have hx18 : x18.toInt = ((M1 : Int) / 2) := by rw [ex18]; exact ti_div v2o (show (2 : Int32).toInt = 2 by decide) (by omega) (by omega)
        refine v_istore_n (lv' := [(0, .ref (ad 68)), (1, .int a), (2, .int b), (3, .int x18)]) C [1, 2, 3, 0] dX9_findOdds_210 rfl (by decide) rfl ?_
        have LP19 : ∀ (t : Nat) (d2 : Int) (y20 : Int32) (E21 : Nat → va_E) (o1 : Nat → Int32), (y20.toInt = d2) → (E21 97 = aI G 40000 o1) → (∀ j, j ≠ 97 → E21 j = E11 j) → (-1 ≤ d2) → (d2 ≤ (M1 : Int)) → (∀ m, inS o1 M1 m ↔ inS od1 M1 m) → (hpF o1 (d2 + 1).toNat M1) → d2 + 1 < (t : Int) → V X G A 8 (QV X G A (n) ad (fun E' => ∃ (im1 od1 : Nat → Int32) (L : Nat), (∀ q, q ≠ 7 → q ≠ 41 → im1 q = im q) ∧ (im1 41).toInt = (L : Int) ∧ L ≤ 26002 ∧ MCal G ad E' im1 ic md ∧ ZMs G E' 5 TT ∧ E' 97 = aI G 40000 od1 ∧ isEn (isOd k TT (YSf md (ic 4).toInt (ic 5).toInt 100) a.toInt b.toInt) L (fun i => (od1 i).toInt) ∧ ∀ j, j ≠ 68 → j ≠ 70 → (j < 79 ∨ 84 < j) → j ≠ 97 → E' j = E j)) (n) ad 0 0 E21 211 [(0, .ref (ad 68)), (3, .int y20)] [] := by
          intro t25
          induction t25 with
          | zero => intro d2 y20 E21 o1 hy20 hE21_97 hfr22 hq23 hq24 hin hF hm27; exfalso; omega
          | succ t25 ih26 =>
            intro d2 y20 E21 o1 hy20 hE21_97 hfr22 hq23 hq24 hin hF hm27
            have hE21_68 := (hfr22 68 (by decide)).trans e68o
            refine v_iload_n C 1 dX9_findOdds_211 rfl rfl ?_
            refine b_if_lt C 230 dX9_findOdds_212 (by decide) hy20 (fun c28 => ?_) (fun c28 => ?_)
            · have hF0 : hpF o1 0 M1 := by have q := hF; rw [show (d2 + 1).toNat = 0 by omega] at q; exact q
              refine v_aload_n C 0 dX9_findOdds_230 rfl rfl ?_
              refine v_geti (v := imo 41) C 68 dX9_findOdds_231 fX9_265 (by omega) hE21_68 rfl rfl ?_
              refine v_iconst (v := 1) C dX9_findOdds_234 (by decide) ?_
              refine v_isub C dX9_findOdds_235 ?_
              refine v_top (fun x29 ex29 => ?_)
              have hx29 : x29.toInt = ((M1 : Int) - 1) := by rw [ex29]; exact ti_sub v2o (show (1 : Int32).toInt = 1 by decide) (by omega) (by omega)
              refine v_istore_n (lv' := [(0, .ref (ad 68)), (3, .int x29)]) C [1, 0] dX9_findOdds_236 rfl (by decide) rfl ?_
              have LP30 : ∀ (t : Nat) (k2 : Nat) (y31 : Int32) (E32 : Nat → va_E) (o2 : Nat → Int32), (y31.toInt = (k2 : Int)) → (E32 97 = aI G 40000 o2) → (∀ j, j ≠ 97 → E32 j = E21 j) → (k2 < M1) → (∀ m, inS o2 M1 m ↔ inS od1 M1 m) → (hpF o2 0 (k2 + 1)) → (hsrt o2 k2 M1) → (k2 : Int) < (t : Int) → V X G A 8 (QV X G A (n) ad (fun E' => ∃ (im1 od1 : Nat → Int32) (L : Nat), (∀ q, q ≠ 7 → q ≠ 41 → im1 q = im q) ∧ (im1 41).toInt = (L : Int) ∧ L ≤ 26002 ∧ MCal G ad E' im1 ic md ∧ ZMs G E' 5 TT ∧ E' 97 = aI G 40000 od1 ∧ isEn (isOd k TT (YSf md (ic 4).toInt (ic 5).toInt 100) a.toInt b.toInt) L (fun i => (od1 i).toInt) ∧ ∀ j, j ≠ 68 → j ≠ 70 → (j < 79 ∨ 84 < j) → j ≠ 97 → E' j = E j)) (n) ad 0 0 E32 237 [(0, .ref (ad 68)), (3, .int y31)] [] := by
                intro t35
                induction t35 with
                | zero => intro k2 y31 E32 o2 hy31 hE32_97 hfr33 hq34 hin2 hF hsr hm37; exfalso; omega
                | succ t35 ih36 =>
                  intro k2 y31 E32 o2 hy31 hE32_97 hfr33 hq34 hin2 hF hsr hm37
                  have hE32_68 := (hfr33 68 (by decide)).trans hE21_68
                  refine v_iload_n C 1 dX9_findOdds_237 rfl rfl ?_
                  refine b_if_le C 281 dX9_findOdds_238 (by decide) hy31 (fun c38 => ?_) (fun c38 => ?_)
                  · have hk20 : k2 = 0 := by omega
                    subst hk20
                    have hso := hsr_end hsr
                    refine v_iconst (v := 0) C dX9_findOdds_281 (by decide) ?_
                    refine v_istore_n (lv' := [(0, .ref (ad 68)), (3, .int 0)]) C [1, 0] dX9_findOdds_282 rfl (by decide) rfl ?_
                    refine v_iconst (v := 0) C dX9_findOdds_283 (by decide) ?_
                    refine v_istore (lv' := [(0, .ref (ad 68)), (3, .int 0), (4, .int 0)]) C [1, 2, 0] dX9_findOdds_284 (by decide) rfl ?_
                    have LP39 : ∀ (t : Nat) (L1 : Nat) (y40 : Int32) (q1 : Nat) (y41 : Int32) (E42 : Nat → va_E) (o4 : Nat → Int32), (y40.toInt = (L1 : Int)) → (y41.toInt = (q1 : Int)) → (E42 97 = aI G 40000 o4) → (∀ j, j ≠ 97 → E42 j = E32 j) → (L1 ≤ q1) → (q1 ≤ M1) → (L1 = 0 → q1 = 0) → (∀ i, i + 1 < L1 → (o4 i).toInt < (o4 (i + 1)).toInt) → (∀ m, inS o4 L1 m ↔ inS o2 q1 m) → (∀ j, q1 ≤ j → o4 j = o2 j) → (0 < L1 → (o4 (L1 - 1)).toInt = (o2 (q1 - 1)).toInt) → (M1 : Int) - (q1 : Int) < (t : Int) → V X G A 8 (QV X G A (n) ad (fun E' => ∃ (im1 od1 : Nat → Int32) (L : Nat), (∀ q, q ≠ 7 → q ≠ 41 → im1 q = im q) ∧ (im1 41).toInt = (L : Int) ∧ L ≤ 26002 ∧ MCal G ad E' im1 ic md ∧ ZMs G E' 5 TT ∧ E' 97 = aI G 40000 od1 ∧ isEn (isOd k TT (YSf md (ic 4).toInt (ic 5).toInt 100) a.toInt b.toInt) L (fun i => (od1 i).toInt) ∧ ∀ j, j ≠ 68 → j ≠ 70 → (j < 79 ∨ 84 < j) → j ≠ 97 → E' j = E j)) (n) ad 0 0 E42 286 [(0, .ref (ad 68)), (3, .int y40), (4, .int y41)] [] := by
                      intro t46
                      induction t46 with
                      | zero => intro L1 y40 q1 y41 E42 o4 hy40 hy41 hE42_97 hfr43 hq44 hq45 hq0 hstr hin4 hge hlast hm48; exfalso; omega
                      | succ t46 ih47 =>
                        intro L1 y40 q1 y41 E42 o4 hy40 hy41 hE42_97 hfr43 hq44 hq45 hq0 hstr hin4 hge hlast hm48
                        have hE42_68 := (hfr43 68 (by decide)).trans hE32_68
                        refine v_iload C 2 dX9_findOdds_286 rfl ?_
                        refine v_aload_n C 0 dX9_findOdds_288 rfl rfl ?_
                        refine v_geti (v := imo 41) C 68 dX9_findOdds_289 fX9_265 (by omega) hE42_68 rfl rfl ?_
                        refine b_icmp_ge C 339 dX9_findOdds_292 (by decide) hy41 v2o (fun c49 => ?_) (fun c49 => ?_)
                        · refine v_aload_n C 0 dX9_findOdds_339 rfl rfl ?_
                          refine v_iload_n C 1 dX9_findOdds_340 rfl rfl ?_
                          refine v_puti C 68 dX9_findOdds_341 fX9_265 (by omega) hE42_68 rfl rfl rfl rfl (fun E50 hE50_68 oE50 => ?_)
                          have hE50_97 := (oE50 97 (by decide)).trans hE42_97
                          have hOb : ∀ j, j ≠ 68 → j ≠ 97 → E50 j = E11 j := fun j g1 g2 => ((oE50 j (by omega)).trans ((hfr43 j (by omega)).trans ((hfr33 j (by omega)).trans (hfr22 j (by omega)))))
                          have hWe := v3o.same (fun q hq => if_neg (by omega)) hE50_68 (hOb 69 (by decide) (by decide)) (hOb 70 (by decide) (by decide))
                          have hq9 : q1 = M1 := by omega
                          subst hq9
                          exact v_vret C dX9_findOdds_344 rfl ⟨_, o4, L1, (fun q g1 g2 => (if_neg g2).trans (v1o q g1 g2)), hy40, by omega, hWe, v4o.go (fun j g1 g2 => hOb j (by omega) (by omega)), hE50_97, dd_en hstr hin4 (fun m => (hin2 m).trans (hset9 m)), fun j g1 g2 g3 g4 => (hOb j g1 g4).trans (v6o j g1 g2 g3 g4)⟩
                        · refine v_iload_n C 1 dX9_findOdds_295 rfl rfl ?_
                          refine b_if_eq C 317 dX9_findOdds_296 (by decide) hy40 (fun c51 => ?_) (fun c51 => ?_)
                          · refine v_aload_n C 0 dX9_findOdds_317 rfl rfl ?_
                            refine v_getr C 68 dX9_findOdds_318 fX9_113 (by omega) hE42_68 rfl rfl ?_
                            refine v_iload_n C 1 dX9_findOdds_321 rfl rfl ?_
                            refine v_aload_n C 0 dX9_findOdds_322 rfl rfl ?_
                            refine v_getr C 68 dX9_findOdds_323 fX9_113 (by omega) hE42_68 rfl rfl ?_
                            refine v_iload C 2 dX9_findOdds_326 rfl ?_
                            refine v_ald (v := o4 q1) C 97 dX9_findOdds_328 (by omega) hE42_97 (ti_in hy41 (by omega) (by omega)) (by rw [ti_cl hy41, show Int.toNat (q1 : Int) = q1 by omega]) ?_
                            refine v_ast C 97 dX9_findOdds_329 (by omega) hE42_97 (ti_in hy40 (by omega) (by omega)) (fun E52 hE52_97 oE52 => ?_)
                            rw [ti_cl hy40, show Int.toNat (L1 : Int) = L1 by omega] at hE52_97
                            have hE52_68 := (oE52 68 (by decide)).trans hE42_68
                            obtain ⟨x53, ex53⟩ : ∃ y : Int32, y = y40 + 1 := ⟨_, rfl⟩
                            have hx53 : x53.toInt = ((L1 : Int) + 1) := by rw [ex53]; exact ti_add hy40 (show (1 : Int32).toInt = 1 by decide) (by omega) (by omega)
                            refine v_iinc (v := x53) (lv' := [(0, .ref (ad 68)), (3, .int x53), (4, .int y41)]) C 1 [1, 0, 2] dX9_findOdds_330 rfl (ex53.symm) (by decide) rfl ?_
                            obtain ⟨x54, ex54⟩ : ∃ y : Int32, y = y41 + 1 := ⟨_, rfl⟩
                            have hx54 : x54.toInt = ((q1 : Int) + 1) := by rw [ex54]; exact ti_add hy41 (show (1 : Int32).toInt = 1 by decide) (by omega) (by omega)
                            refine v_iinc (v := x54) (lv' := [(0, .ref (ad 68)), (3, .int x53), (4, .int x54)]) C 2 [1, 2, 0] dX9_findOdds_333 rfl (ex54.symm) (by decide) rfl ?_
                            refine v_goto C 286 dX9_findOdds_336 (by decide) ?_
                            exact ih47 (L1 + 1) x53 (q1 + 1) x54 E52 (upd o4 L1 (o4 q1)) (show Int32.toInt x53 = ((L1 + 1 : Nat) : Int) by have := hx53; omega) (show Int32.toInt x54 = ((q1 + 1 : Nat) : Int) by have := hx54; omega) hE52_97 (fun j g0 => ((oE52 j g0).trans (hfr43 j g0))) (by omega) (by omega) (by omega) (dd_str hstr (fun _ => by exfalso; omega)) (dd_new (by rw [hge q1 (Nat.le_refl q1)]) hin4) (fun j hj => by rw [upd_ne (by omega)]; exact hge j (by omega)) (fun _ => by rw [show L1 + 1 - 1 = L1 by omega, upd_same, show q1 + 1 - 1 = q1 by omega, hge q1 (Nat.le_refl q1)]) (by omega)
                          · refine v_aload_n C 0 dX9_findOdds_299 rfl rfl ?_
                            refine v_getr C 68 dX9_findOdds_300 fX9_113 (by omega) hE42_68 rfl rfl ?_
                            refine v_iload C 2 dX9_findOdds_303 rfl ?_
                            refine v_ald (v := o4 q1) C 97 dX9_findOdds_305 (by omega) hE42_97 (ti_in hy41 (by omega) (by omega)) (by rw [ti_cl hy41, show Int.toNat (q1 : Int) = q1 by omega]) ?_
                            refine v_aload_n C 0 dX9_findOdds_306 rfl rfl ?_
                            refine v_getr C 68 dX9_findOdds_307 fX9_113 (by omega) hE42_68 rfl rfl ?_
                            refine v_iload_n C 1 dX9_findOdds_310 rfl rfl ?_
                            refine v_iconst (v := 1) C dX9_findOdds_311 (by decide) ?_
                            refine v_isub C dX9_findOdds_312 ?_
                            refine v_top (fun x55 ex55 => ?_)
                            have hx55 : x55.toInt = ((L1 : Int) - 1) := by rw [ex55]; exact ti_sub hy40 (show (1 : Int32).toInt = 1 by decide) (by omega) (by omega)
                            refine v_ald (v := o4 (L1 - 1)) C 97 dX9_findOdds_313 (by omega) hE42_97 (ti_in hx55 (by omega) (by omega)) (by rw [ti_cl hx55, show Int.toNat ((L1 : Int) - 1) = L1 - 1 by omega]) ?_
                            refine b_icmp_eq C 333 dX9_findOdds_314 (by decide) (rfl : Int32.toInt (o4 q1) = _) (rfl : Int32.toInt (o4 (L1 - 1)) = _) (fun c56 => ?_) (fun c56 => ?_)
                            · obtain ⟨x57, ex57⟩ : ∃ y : Int32, y = y41 + 1 := ⟨_, rfl⟩
                              have hx57 : x57.toInt = ((q1 : Int) + 1) := by rw [ex57]; exact ti_add hy41 (show (1 : Int32).toInt = 1 by decide) (by omega) (by omega)
                              refine v_iinc (v := x57) (lv' := [(0, .ref (ad 68)), (3, .int y40), (4, .int x57)]) C 2 [1, 2, 0] dX9_findOdds_333 rfl (ex57.symm) (by decide) rfl ?_
                              refine v_goto C 286 dX9_findOdds_336 (by decide) ?_
                              exact ih47 L1 y40 (q1 + 1) x57 E42 o4 (show Int32.toInt y40 = ((L1 : Nat) : Int) by have := hy40; omega) (show Int32.toInt x57 = ((q1 + 1 : Nat) : Int) by have := hx57; omega) hE42_97 (fun j g0 => (hfr43 j g0)) (by omega) (by omega) (by omega) (hstr) (dd_same (by omega) hin4 (by rw [← hge q1 (Nat.le_refl q1)]; omega)) (fun j hj => hge j (by omega)) (fun g => by rw [show q1 + 1 - 1 = q1 by omega, ← hge q1 (Nat.le_refl q1)]; omega) (by omega)
                            · refine v_aload_n C 0 dX9_findOdds_317 rfl rfl ?_
                              refine v_getr C 68 dX9_findOdds_318 fX9_113 (by omega) hE42_68 rfl rfl ?_
                              refine v_iload_n C 1 dX9_findOdds_321 rfl rfl ?_
                              refine v_aload_n C 0 dX9_findOdds_322 rfl rfl ?_
                              refine v_getr C 68 dX9_findOdds_323 fX9_113 (by omega) hE42_68 rfl rfl ?_
                              refine v_iload C 2 dX9_findOdds_326 rfl ?_
                              refine v_ald (v := o4 q1) C 97 dX9_findOdds_328 (by omega) hE42_97 (ti_in hy41 (by omega) (by omega)) (by rw [ti_cl hy41, show Int.toNat (q1 : Int) = q1 by omega]) ?_
                              refine v_ast C 97 dX9_findOdds_329 (by omega) hE42_97 (ti_in hy40 (by omega) (by omega)) (fun E58 hE58_97 oE58 => ?_)
                              rw [ti_cl hy40, show Int.toNat (L1 : Int) = L1 by omega] at hE58_97
                              have hE58_68 := (oE58 68 (by decide)).trans hE42_68
                              obtain ⟨x59, ex59⟩ : ∃ y : Int32, y = y40 + 1 := ⟨_, rfl⟩
                              have hx59 : x59.toInt = ((L1 : Int) + 1) := by rw [ex59]; exact ti_add hy40 (show (1 : Int32).toInt = 1 by decide) (by omega) (by omega)
                              refine v_iinc (v := x59) (lv' := [(0, .ref (ad 68)), (3, .int x59), (4, .int y41)]) C 1 [1, 0, 2] dX9_findOdds_330 rfl (ex59.symm) (by decide) rfl ?_
                              obtain ⟨x60, ex60⟩ : ∃ y : Int32, y = y41 + 1 := ⟨_, rfl⟩
                              have hx60 : x60.toInt = ((q1 : Int) + 1) := by rw [ex60]; exact ti_add hy41 (show (1 : Int32).toInt = 1 by decide) (by omega) (by omega)
                              refine v_iinc (v := x60) (lv' := [(0, .ref (ad 68)), (3, .int x59), (4, .int x60)]) C 2 [1, 2, 0] dX9_findOdds_333 rfl (ex60.symm) (by decide) rfl ?_
                              refine v_goto C 286 dX9_findOdds_336 (by decide) ?_
                              exact ih47 (L1 + 1) x59 (q1 + 1) x60 E58 (upd o4 L1 (o4 q1)) (show Int32.toInt x59 = ((L1 + 1 : Nat) : Int) by have := hx59; omega) (show Int32.toInt x60 = ((q1 + 1 : Nat) : Int) by have := hx60; omega) hE58_97 (fun j g0 => ((oE58 j g0).trans (hfr43 j g0))) (by omega) (by omega) (by omega) (dd_str hstr (fun _ => by have g := hlast (by omega); have g2 := hso (q1 - 1) q1 (by omega) (by omega); have g3 : (o4 q1).toInt = (o2 q1).toInt := (by rw [hge q1 (Nat.le_refl q1)]); omega)) (dd_new (by rw [hge q1 (Nat.le_refl q1)]) hin4) (fun j hj => by rw [upd_ne (by omega)]; exact hge j (by omega)) (fun _ => by rw [show L1 + 1 - 1 = L1 by omega, upd_same, show q1 + 1 - 1 = q1 by omega, hge q1 (Nat.le_refl q1)]) (by omega)
                    exact LP39 100000 0 0 0 0 E32 o2 (show Int32.toInt 0 = ((0 : Nat) : Int) by have := (show (0 : Int32).toInt = 0 by decide); omega) (show Int32.toInt 0 = ((0 : Nat) : Int) by have := (show (0 : Int32).toInt = 0 by decide); omega) hE32_97 (fun j _ => rfl) (by omega) (by omega) (by omega) (fun i hi => by exfalso; omega) (fun m => ⟨fun ⟨i, hi, _⟩ => by omega, fun ⟨i, hi, _⟩ => by omega⟩) (fun j _ => rfl) (fun g => by exfalso; omega) (by omega)
                  · refine v_aload_n C 0 dX9_findOdds_241 rfl rfl ?_
                    refine v_getr C 68 dX9_findOdds_242 fX9_113 (by omega) hE32_68 rfl rfl ?_
                    refine v_iconst (v := 0) C dX9_findOdds_245 (by decide) ?_
                    refine v_ald (v := o2 0) C 97 dX9_findOdds_246 (by omega) hE32_97 (ti_in (show (0 : Int32).toInt = 0 by decide) (by omega) (by omega)) (congrArg o2 (by decide)) ?_
                    refine v_istore (lv' := [(0, .ref (ad 68)), (3, .int y31), (4, .int (o2 0))]) C [1, 2, 0] dX9_findOdds_247 (by decide) rfl ?_
                    refine v_aload_n C 0 dX9_findOdds_249 rfl rfl ?_
                    refine v_getr C 68 dX9_findOdds_250 fX9_113 (by omega) hE32_68 rfl rfl ?_
                    refine v_iconst (v := 0) C dX9_findOdds_253 (by decide) ?_
                    refine v_aload_n C 0 dX9_findOdds_254 rfl rfl ?_
                    refine v_getr C 68 dX9_findOdds_255 fX9_113 (by omega) hE32_68 rfl rfl ?_
                    refine v_iload_n C 1 dX9_findOdds_258 rfl rfl ?_
                    refine v_ald (v := o2 k2) C 97 dX9_findOdds_259 (by omega) hE32_97 (ti_in hy31 (by omega) (by omega)) (by rw [ti_cl hy31, show Int.toNat (k2 : Int) = k2 by omega]) ?_
                    refine v_ast C 97 dX9_findOdds_260 (by omega) hE32_97 (ti_in (show (0 : Int32).toInt = 0 by decide) (by omega) (by omega)) (fun E61 hE61_97 oE61 => ?_)
                    rw [ti_cl (show (0 : Int32).toInt = 0 by decide), show Int.toNat 0 = 0 by omega] at hE61_97
                    have hE61_68 := (oE61 68 (by decide)).trans hE32_68
                    refine v_aload_n C 0 dX9_findOdds_261 rfl rfl ?_
                    refine v_getr C 68 dX9_findOdds_262 fX9_113 (by omega) hE61_68 rfl rfl ?_
                    refine v_iload_n C 1 dX9_findOdds_265 rfl rfl ?_
                    refine v_iload C 2 dX9_findOdds_266 rfl ?_
                    refine v_ast C 97 dX9_findOdds_268 (by omega) hE61_97 (ti_in hy31 (by omega) (by omega)) (fun E62 hE62_97 oE62 => ?_)
                    rw [ti_cl hy31, show Int.toNat (k2 : Int) = k2 by omega] at hE62_97
                    have hE62_68 := (oE62 68 (by decide)).trans hE61_68
                    refine v_aload_n C 0 dX9_findOdds_269 rfl rfl ?_
                    refine v_iconst (v := 0) C dX9_findOdds_270 (by decide) ?_
                    refine v_iload_n C 1 dX9_findOdds_271 rfl rfl ?_
                    refine v_cVv C dX9_findOdds_272 lX9_272 mX9_sink 68 (by omega) hE62_68 (by decide) rfl (y_sink l G n ad _ hn hE62_68 hE62_97 (lo := 0) (nn := k2) (by omega) (by omega) ((hp_pre hF (by omega)).1) ((hp_pre hF (by omega)).2) 0 y31 (by have := (show (0 : Int32).toInt = 0 by decide); omega) (by have := hy31; omega)) ⟨by decide, by decide⟩ rfl (Nat.le_of_ble_eq_true rfl) ⟨Nat.zero_le _, Nat.zero_le _⟩ (fun E63 hq64 => ?_)
                    obtain ⟨o65k, s165, s265, s365, s465, s565⟩ := hq64
                    have hE63_68 := (s565 68 (by decide)).trans hE62_68
                    obtain ⟨x66, ex66⟩ : ∃ y : Int32, y = y31 + (-1) := ⟨_, rfl⟩
                    have hx66 : x66.toInt = ((k2 : Int) + (-1)) := by rw [ex66]; exact ti_add hy31 (show ((-1) : Int32).toInt = (-1) by decide) (by omega) (by omega)
                    refine v_iinc (v := x66) (lv' := [(0, .ref (ad 68)), (3, .int x66), (4, .int (o2 0))]) C 1 [1, 0, 2] dX9_findOdds_275 rfl (ex66.symm) (by decide) rfl ?_
                    refine v_goto C 237 dX9_findOdds_278 (by decide) ?_
                    refine v_sub (lv' := [(0, .ref (ad 68)), (3, .int x66)]) [0, 1] rfl ?_
                    exact ih36 (k2 - 1) x66 E63 o65k (show Int32.toInt x66 = ((k2 - 1 : Nat) : Int) by have := hx66; omega) s165 (fun j g0 => ((s565 j g0).trans ((oE62 j g0).trans ((oE61 j g0).trans (hfr33 j g0))))) (by omega) (fun m => ((inS_ext (k := k2) (by omega) s265 s365 m).trans (inS_swap0 (by omega))).trans (hin2 m)) (by rw [show k2 - 1 + 1 = k2 by omega]; exact s465) (hsr_step (by omega) (by omega) hF hsr s265 s365) (by omega)
              exact LP30 100000 (M1 - 1) x29 E21 o1 (show Int32.toInt x29 = ((M1 - 1 : Nat) : Int) by have := hx29; omega) hE21_97 (fun j _ => rfl) (by omega) (hin) (by rw [show M1 - 1 + 1 = M1 by omega]; exact hF0) (⟨fun i j g1 g2 g3 => by exfalso; omega, fun i j g1 g2 g3 => by exfalso; omega⟩) (by omega)
            · obtain ⟨k1, rfl⟩ : ∃ j : Nat, d2 = (j : Int) := ⟨d2.toNat, by omega⟩
              refine v_aload_n C 0 dX9_findOdds_215 rfl rfl ?_
              refine v_iload_n C 1 dX9_findOdds_216 rfl rfl ?_
              refine v_aload_n C 0 dX9_findOdds_217 rfl rfl ?_
              refine v_geti (v := imo 41) C 68 dX9_findOdds_218 fX9_265 (by omega) hE21_68 rfl rfl ?_
              refine v_cVv C dX9_findOdds_221 lX9_272 mX9_sink 68 (by omega) hE21_68 (by decide) rfl (y_sink l G n ad _ hn hE21_68 hE21_97 (lo := k1) (nn := M1) (by omega) (by omega) (fun i g1 g2 => hF i (by omega)) (fun p g1 g2 => by omega) y20 (imo 41) (by have := hy20; omega) (by have := v2o; omega)) ⟨by decide, by decide⟩ rfl (Nat.le_of_ble_eq_true rfl) ⟨Nat.zero_le _, Nat.zero_le _⟩ (fun E67 hq68 => ?_)
              obtain ⟨o69k, s169, s269, s369, s469, s569⟩ := hq68
              have hE67_68 := (s569 68 (by decide)).trans hE21_68
              obtain ⟨x70, ex70⟩ : ∃ y : Int32, y = y20 + (-1) := ⟨_, rfl⟩
              have hx70 : x70.toInt = ((k1 : Int) + (-1)) := by rw [ex70]; exact ti_add hy20 (show ((-1) : Int32).toInt = (-1) by decide) (by omega) (by omega)
              refine v_iinc (v := x70) (lv' := [(0, .ref (ad 68)), (3, .int x70)]) C 1 [1, 0] dX9_findOdds_224 rfl (ex70.symm) (by decide) rfl ?_
              refine v_goto C 211 dX9_findOdds_227 (by decide) ?_
              exact ih26 ((k1 : Int) + (-1)) x70 E67 o69k hx70 s169 (fun j g0 => ((s569 j g0).trans (hfr22 j g0))) (by omega) (by omega) (fun m => (s269 m).trans (hin m)) (by rw [show (((k1 : Int) + (-1)) + 1).toNat = k1 by omega]; exact s469) (by omega)
        refine v_sub (lv' := [(0, .ref (ad 68)), (3, .int x18)]) [0, 3] rfl ?_
        exact LP19 100000 ((M1 : Int) / 2) x18 E11 od1 hx18 v5o (fun j _ => rfl) (by omega) (by omega) (fun m => Iff.rfl) (fun i hi => ⟨fun q => by exfalso; omega, fun q => by exfalso; omega⟩) (by omega)
      · refine v_aload_n C 0 dX9_findOdds_29 rfl rfl ?_
        refine v_iload_n C 3 dX9_findOdds_30 rfl rfl ?_
        obtain ⟨h71, h72, h73, h74, h75, h76, h77, h78⟩ := id hRo
        obtain ⟨fz, sf, sp, sc, sw, so, h79, h80, h81, h82, h83, h84, hfz, hsb0, hfd⟩ := id v4o
        have hV0 := hV z1 (by omega)
        have hRn : (rm z1).toInt = ((rm z1).toInt.toNat : Int) := by have := hV0.1; omega
        have hR8n : (rm z1).toInt.toNat ≤ 8 := by have := hV0.1; omega
        refine v_cVv C dX9_findOdds_31 lX9_171 mX9_find 68 (by omega) e68o (by decide) rfl (y_find l G n ad _ hn v3o h71 h72 h73 h74 h75 h76 h77 h78 h79 h80 h81 h82 h83 h84 hfz (zz := z1) (R := (rm z1).toInt.toNat) (by omega) hRn hR8n hV0.2.1 hV0.2.2 (LLz_bd hP hV0.2.1) y10 hy10) ⟨by decide, by decide⟩ rfl (Nat.le_of_ble_eq_true rfl) ⟨Nat.zero_le _, Nat.zero_le _⟩ (fun E71 hq72 => ?_)
        obtain ⟨hFQ, hZf⟩ := find_post (k := 5) (by omega) v3o h79 h80 h81 h82 h83 h84 hfz hsb0 hfd h8T (hTo z1 (by omega)) hq72
        rw [← hTo z1 (by omega)] at hZf
        obtain ⟨sf1, sp1, sc1, g80, g81, g82, hZ1⟩ := id hZf
        obtain ⟨im73, hi73, hW73, hS73, hO73⟩ := id hFQ
        have hR73 := hRo.go (fun j h1 h2 => hO73 j (by omega) (by omega) (by omega))
        have hT73 : ∀ z, z < 5 → TT z = TTz ic md rf rto ron rat rbe rtd rm fv (im73 18).toInt z := fun z hz => by rw [hi73 18 (by decide)]; exact hTo z hz
        have hI73 : ∀ q, q ≠ 7 → q ≠ 41 → im73 q = im q := fun q g1 g2 => (hi73 q g1).trans (v1o q g1 g2)
        have hE71_97 := (hO73 97 (by decide) (by decide) (by decide)).trans v5o
        have e6873 := hW73.2.2.1
        have hp1673 : (im73 16).toInt = (k : Int) := by rw [hi73 16 (by decide)]; exact h16o
        have hp4173 : (im73 41).toInt = (M1 : Int) := by rw [hi73 41 (by decide)]; exact v2o
        have hsc : (sc1 z1).toInt = ((TT z1).1 : Int) := hZ1.1.symm
        have h8z := h8T z1 (by omega)
        have hokz := hokT z1 (by omega)
        refine v_iconst (v := 1) C dX9_findOdds_34 (by decide) ?_
        refine v_istore (lv' := [(0, .ref (ad 68)), (1, .int a), (2, .int b), (3, .int y10), (4, .int 1)]) C [1, 2, 3, 4, 0] dX9_findOdds_35 (by decide) rfl ?_
        have LP74 : ∀ (t : Nat) (j1 : Nat) (y75 : Int32) (od2 : Nat → Int32) (M2 : Nat) (E76 : Nat → va_E), (y75.toInt = (j1 : Int)) → (AOs G ad E71 E76 im73 od2 M2) → (1 ≤ j1) → (j1 ≤ (TT z1).1 + 1) → (∀ x, inS od2 M2 x ↔ inS od1 M1 x ∨ chI (TT z1) a.toInt b.toInt 1 j1 x) → (M2 ≤ M1 + 3 * (j1 - 1)) → ((TT z1).1 : Int) + 1 - (j1 : Int) < (t : Int) → V X G A 8 (QV X G A (n) ad (fun E' => ∃ (im1 od1 : Nat → Int32) (L : Nat), (∀ q, q ≠ 7 → q ≠ 41 → im1 q = im q) ∧ (im1 41).toInt = (L : Int) ∧ L ≤ 26002 ∧ MCal G ad E' im1 ic md ∧ ZMs G E' 5 TT ∧ E' 97 = aI G 40000 od1 ∧ isEn (isOd k TT (YSf md (ic 4).toInt (ic 5).toInt 100) a.toInt b.toInt) L (fun i => (od1 i).toInt) ∧ ∀ j, j ≠ 68 → j ≠ 70 → (j < 79 ∨ 84 < j) → j ≠ 97 → E' j = E j)) (n) ad 0 0 E76 37 [(0, .ref (ad 68)), (1, .int a), (2, .int b), (3, .int y10), (4, .int y75)] [] := by
          intro t80
          induction t80 with
          | zero => intro j1 y75 od2 M2 E76 hy75 hI77 hq78 hq79 hch hMc hm82; exfalso; omega
          | succ t80 ih81 =>
            intro j1 y75 od2 M2 E76 hy75 hI77 hq78 hq79 hch hMc hm82
            obtain ⟨imc, w1, w2, w3, w4, w5⟩ := id hI77
            have hWc := hW73.same (fun q hq => w1 q (by omega)) w3 (w5 69 (by decide) (by decide)) (w5 70 (by decide) (by decide))
            have hRc := hR73.go (fun j g1 g2 => w5 j (by omega) (by omega))
            have hSc := hS73.go (fun j g1 g2 => w5 j (by omega) (by omega))
            have hTc : ∀ z, z < 5 → TT z = TTz ic md rf rto ron rat rbe rtd rm fv (imc 18).toInt z := fun z hz => by rw [w1 18 (by decide)]; exact hT73 z hz
            have hIc : ∀ q, q ≠ 7 → q ≠ 41 → imc q = im q := fun q g1 g2 => (w1 q g2).trans (hI73 q g1 g2)
            have h16c : (imc 16).toInt = (k : Int) := by rw [hIc 16 (by decide) (by decide)]; exact hk
            have h80c := (w5 80 (by decide) (by decide)).trans g80
            have h82c := (w5 82 (by decide) (by decide)).trans g82
            refine v_iload C 4 dX9_findOdds_37 rfl ?_
            refine v_aload_n C 0 dX9_findOdds_39 rfl rfl ?_
            refine v_getr C 68 dX9_findOdds_40 fX9_67 (by omega) w3 rfl rfl ?_
            refine v_iload_n C 3 dX9_findOdds_43 rfl rfl ?_
            refine v_ald (v := sc1 z1) C 82 dX9_findOdds_44 (by omega) h82c (ti_in hy10 (by omega) (by omega)) (by rw [ti_cl hy10, show Int.toNat (z1 : Int) = z1 by omega]) ?_
            refine b_icmp_gt C 97 dX9_findOdds_45 (by decide) hy75 hsc (fun c83 => ?_) (fun c83 => ?_)
            · have hj9 : j1 = (TT z1).1 + 1 := by omega
              rw [hj9] at hch
              have hMc2 : M2 ≤ M1 + 2400 := by omega
              refine v_iload_n C 1 dX9_findOdds_97 rfl rfl ?_
              refine v_sipush (v := 1440) C dX9_findOdds_98 (by decide) ?_
              refine v_idiv C dX9_findOdds_101 (by decide) ?_
              refine v_top (fun x84 ex84 => ?_)
              have hx84 : x84.toInt = (a.toInt / 1440) := by rw [ex84]; exact ti_div (rfl : Int32.toInt a = _) (show (1440 : Int32).toInt = 1440 by decide) (by omega) (by omega)
              refine v_iconst (v := 2) C dX9_findOdds_102 (by decide) ?_
              refine v_isub C dX9_findOdds_103 ?_
              refine v_top (fun x85 ex85 => ?_)
              have hx85 : x85.toInt = ((a.toInt / 1440) - 2) := by rw [ex85]; exact ti_sub hx84 (show (2 : Int32).toInt = 2 by decide) (by omega) (by omega)
              refine v_istore (lv' := [(0, .ref (ad 68)), (1, .int a), (2, .int b), (3, .int y10), (4, .int x85)]) C [1, 2, 3, 4, 0] dX9_findOdds_104 (by decide) rfl ?_
              refine v_iload_n C 2 dX9_findOdds_106 rfl rfl ?_
              refine v_sipush (v := 1440) C dX9_findOdds_107 (by decide) ?_
              refine v_idiv C dX9_findOdds_110 (by decide) ?_
              refine v_top (fun x86 ex86 => ?_)
              have hx86 : x86.toInt = (b.toInt / 1440) := by rw [ex86]; exact ti_div (rfl : Int32.toInt b = _) (show (1440 : Int32).toInt = 1440 by decide) (by omega) (by omega)
              refine v_iconst (v := 2) C dX9_findOdds_111 (by decide) ?_
              refine v_iadd C dX9_findOdds_112 ?_
              refine v_top (fun x87 ex87 => ?_)
              have hx87 : x87.toInt = ((b.toInt / 1440) + 2) := by rw [ex87]; exact ti_add hx86 (show (2 : Int32).toInt = 2 by decide) (by omega) (by omega)
              refine v_istore (lv' := [(0, .ref (ad 68)), (1, .int a), (2, .int b), (3, .int y10), (4, .int x85), (5, .int x87)]) C [1, 2, 3, 4, 5, 0] dX9_findOdds_113 (by decide) rfl ?_
              refine v_iload C 4 dX9_findOdds_115 rfl ?_
              refine b_if_ge C 124 dX9_findOdds_117 (by decide) hx85 (fun c88 => ?_) (fun c88 => ?_)
              · refine v_iload C 4 dX9_findOdds_124 rfl ?_
                obtain ⟨d0, hd0⟩ : ∃ q : Nat, ((a.toInt / 1440) - 2) = (q : Int) := ⟨(((a.toInt / 1440) - 2)).toNat, by omega⟩
                have hd0v : Int32.toInt x85 = (d0 : Int) := hx85.trans hd0
                refine v_istore (lv' := [(0, .ref (ad 68)), (1, .int a), (2, .int b), (3, .int y10), (4, .int x85), (5, .int x87), (6, .int x85)]) C [1, 2, 3, 4, 5, 6, 0] dX9_findOdds_126 (by decide) rfl ?_
                have LP89 : ∀ (t : Nat) (d1 : Nat) (y90 : Int32) (od3 : Nat → Int32) (M3 : Nat) (E91 : Nat → va_E), (y90.toInt = (d1 : Int)) → (OSt G ad E E91 im ic md TT od3 M3) → (d0 ≤ d1) → ((d1 : Int) ≤ b.toInt / 1440 + 3) → (∀ x, inS od3 M3 x ↔ inS od2 M2 x ∨ dyI (TT z1) (YSf md (ic 4).toInt (ic 5).toInt 100) a.toInt b.toInt d0 d1 x) → (M3 ≤ M2 + 2 * (d1 - d0)) → b.toInt / 1440 + 3 - (d1 : Int) < (t : Int) → V X G A 8 (QV X G A (n) ad (fun E' => ∃ (im1 od1 : Nat → Int32) (L : Nat), (∀ q, q ≠ 7 → q ≠ 41 → im1 q = im q) ∧ (im1 41).toInt = (L : Int) ∧ L ≤ 26002 ∧ MCal G ad E' im1 ic md ∧ ZMs G E' 5 TT ∧ E' 97 = aI G 40000 od1 ∧ isEn (isOd k TT (YSf md (ic 4).toInt (ic 5).toInt 100) a.toInt b.toInt) L (fun i => (od1 i).toInt) ∧ ∀ j, j ≠ 68 → j ≠ 70 → (j < 79 ∨ 84 < j) → j ≠ 97 → E' j = E j)) (n) ad 0 0 E91 128 [(0, .ref (ad 68)), (1, .int a), (2, .int b), (3, .int y10), (5, .int x87), (6, .int y90)] [] := by
                  intro t95
                  induction t95 with
                  | zero => intro d1 y90 od3 M3 E91 hy90 hI92 hq93 hq94 hdy hMd hm97; exfalso; omega
                  | succ t95 ih96 =>
                    intro d1 y90 od3 M3 E91 hy90 hI92 hq93 hq94 hdy hMd hm97
                    obtain ⟨imd, v1d, v2d, v3d, v4d, v5d, v6d⟩ := id hI92
                    have e68d := v3d.2.2.1
                    have hRd := hR.go (fun j g1 g2 => v6d j (by omega) (by omega) (by omega) (by omega))
                    have hTd : ∀ z, z < 5 → TT z = TTz ic md rf rto ron rat rbe rtd rm fv (imd 18).toInt z := fun z hz => by rw [v1d 18 (by decide) (by decide)]; exact hTT z hz
                    have h16d : (imd 16).toInt = (k : Int) := by rw [v1d 16 (by decide) (by decide)]; exact hk
                    refine v_iload C 5 dX9_findOdds_128 rfl ?_
                    refine v_iload C 4 dX9_findOdds_130 rfl ?_
                    refine b_icmp_gt C 198 dX9_findOdds_132 (by decide) hy90 hx87 (fun c98 => ?_) (fun c98 => ?_)
                    · obtain ⟨x99, ex99⟩ : ∃ y : Int32, y = y10 + 1 := ⟨_, rfl⟩
                      have hx99 : x99.toInt = ((z1 : Int) + 1) := by rw [ex99]; exact ti_add hy10 (show (1 : Int32).toInt = 1 by decide) (by omega) (by omega)
                      refine v_iinc (v := x99) (lv' := [(0, .ref (ad 68)), (1, .int a), (2, .int b), (3, .int x99), (5, .int x87), (6, .int y90)]) C 3 [1, 2, 3, 0, 4, 5] dX9_findOdds_198 rfl (ex99.symm) (by decide) rfl ?_
                      refine v_goto C 21 dX9_findOdds_201 (by decide) ?_
                      refine v_sub (lv' := [(0, .ref (ad 68)), (1, .int a), (2, .int b), (3, .int x99)]) [0, 1, 2, 3] rfl ?_
                      exact ih15 (z1 + 1) x99 od3 M3 E91 (show Int32.toInt x99 = ((z1 + 1 : Nat) : Int) by have := hx99; omega) (⟨_, v1d, v2d, v3d, v4d, v5d, fun j g1 g2 g3 g4 => (v6d j (by omega) (by omega) (by omega) (by omega))⟩) (by omega) (os_step (hokT z1 (by omega)) (Nat.le_refl 1) (by omega) (fun i g1 g2 => by omega) (fun i g1 g2 => by omega) hset hch hdy (by omega) (by omega)) (by omega) (by omega)
                    · refine v_aload_n C 0 dX9_findOdds_135 rfl rfl ?_
                      refine v_iload C 5 dX9_findOdds_136 rfl ?_
                      refine v_cVi C dX9_findOdds_138 lX9_141 mX9_isDay 68 (by omega) e68d (by decide) rfl (d_isDay l G n ad _ hn v3d y90) ⟨by decide, by decide⟩ rfl (Nat.le_of_ble_eq_true rfl) ⟨Nat.zero_le _, Nat.zero_le _⟩ (fun r100 E101 hq102 => ?_)
                      obtain ⟨hday, hq102⟩ := hq102
                      have hFE101 := FQ.mr v4d hq102
                      obtain ⟨im103, hi103, hW103, hS103, hO103⟩ := id hFE101
                      have hR103 := hRd.go (fun j h1 h2 => hO103 j (by omega) (by omega) (by omega))
                      have hT103 : ∀ z, z < 5 → TT z = TTz ic md rf rto ron rat rbe rtd rm fv (im103 18).toInt z := fun z hz => by rw [hi103 18 (by decide)]; exact hTd z hz
                      have hI103 : ∀ q, q ≠ 7 → q ≠ 41 → im103 q = im q := fun q g1 g2 => (hi103 q g1).trans (v1d q g1 g2)
                      have hE101_97 := (hO103 97 (by decide) (by decide) (by decide)).trans v5d
                      have e68103 := hW103.2.2.1
                      have hp16103 : (im103 16).toInt = (k : Int) := by rw [hi103 16 (by decide)]; exact h16d
                      have hp41103 : (im103 41).toInt = (M3 : Int) := by rw [hi103 41 (by decide)]; exact v2d
                      rw [hy90] at hday
                      rcases hday with ⟨rfl, hday⟩ | ⟨rfl, hday⟩
                      · refine b_if_eq C 198 dX9_findOdds_141 (by decide) (show (1 : Int32).toInt = 1 by decide) (fun c104 => absurd c104 (by decide)) (fun c104 => ?_)
                        refine v_aload_n C 0 dX9_findOdds_144 rfl rfl ?_
                        refine v_iload_n C 3 dX9_findOdds_145 rfl rfl ?_
                        refine v_sipush (v := 1440) C dX9_findOdds_146 (by decide) ?_
                        refine v_iload C 5 dX9_findOdds_149 rfl ?_
                        refine v_imul C dX9_findOdds_151 ?_
                        refine v_top (fun x105 ex105 => ?_)
                        have hx105 : x105.toInt = (1440 * (d1 : Int)) := by rw [ex105]; exact ti_mul (show (1440 : Int32).toInt = 1440 by decide) hy90 (by omega) (by omega)
                        refine v_sipush (v := 1440) C dX9_findOdds_152 (by decide) ?_
                        refine v_iload C 5 dX9_findOdds_155 rfl ?_
                        refine v_imul C dX9_findOdds_157 ?_
                        refine v_top (fun x106 ex106 => ?_)
                        have hx106 : x106.toInt = (1440 * (d1 : Int)) := by rw [ex106]; exact ti_mul (show (1440 : Int32).toInt = 1440 by decide) hy90 (by omega) (by omega)
                        refine v_sipush (v := 1440) C dX9_findOdds_158 (by decide) ?_
                        refine v_iadd C dX9_findOdds_161 ?_
                        refine v_top (fun x107 ex107 => ?_)
                        have hx107 : x107.toInt = ((1440 * (d1 : Int)) + 1440) := by rw [ex107]; exact ti_add hx106 (show (1440 : Int32).toInt = 1440 by decide) (by omega) (by omega)
                        refine v_iconst (v := 1) C dX9_findOdds_162 (by decide) ?_
                        refine v_isub C dX9_findOdds_163 ?_
                        refine v_top (fun x108 ex108 => ?_)
                        have hx108 : x108.toInt = (((1440 * (d1 : Int)) + 1440) - 1) := by rw [ex108]; exact ti_sub hx107 (show (1 : Int32).toInt = 1 by decide) (by omega) (by omega)
                        refine v_cVi C dX9_findOdds_164 lX9_236 mX9_firstFrom 68 (by omega) e68103 (by decide) rfl (y_firstFrom l G n ad _ hn hW103 hR103 hS103 (k := 5) (zz := z1) (by omega) (by omega) hT103 hV (T := TT z1) rfl (c := (TT z1).1) rfl y10 x105 x108 hy10 (by omega)) ⟨by decide, by decide⟩ rfl (Nat.le_of_ble_eq_true rfl) ⟨Nat.zero_le _, Nat.zero_le _⟩ (fun r109 E110 hq111 => ?_)
                        obtain ⟨hFf, hff⟩ := hq111
                        have hdv : r109.toInt = dyT (TT z1) d1 := by rw [hff, hx105, hx108, show (((1440 * (d1 : Int)) + 1440) - 1) = 1440 * (d1 : Int) + 1439 by omega]; rfl
                        have hdr := dy_rng (d := d1) (hokT z1 (by omega))
                        obtain ⟨im112, hi112, hW112, hS112, hO112⟩ := id hFf
                        have hR112 := hR103.go (fun j h1 h2 => hO112 j (by omega) (by omega) (by omega))
                        have hT112 : ∀ z, z < 5 → TT z = TTz ic md rf rto ron rat rbe rtd rm fv (im112 18).toInt z := fun z hz => by rw [hi112 18 (by decide)]; exact hT103 z hz
                        have hI112 : ∀ q, q ≠ 7 → q ≠ 41 → im112 q = im q := fun q g1 g2 => (hi112 q g1).trans (hI103 q g1 g2)
                        have hE110_97 := (hO112 97 (by decide) (by decide) (by decide)).trans hE101_97
                        have e68112 := hW112.2.2.1
                        have hp16112 : (im112 16).toInt = (k : Int) := by rw [hi112 16 (by decide)]; exact hp16103
                        have hp41112 : (im112 41).toInt = (M3 : Int) := by rw [hi112 41 (by decide)]; exact hp41103
                        refine v_istore (lv' := [(0, .ref (ad 68)), (1, .int a), (2, .int b), (3, .int y10), (5, .int x87), (6, .int y90), (7, .int r109)]) C [1, 2, 3, 4, 5, 6, 0] dX9_findOdds_167 (by decide) rfl ?_
                        refine v_iload C 6 dX9_findOdds_169 rfl ?_
                        refine b_if_lt C 192 dX9_findOdds_171 (by decide) hdv (fun c113 => ?_) (fun c113 => ?_)
                        · obtain ⟨x114, ex114⟩ : ∃ y : Int32, y = y90 + 1 := ⟨_, rfl⟩
                          have hx114 : x114.toInt = ((d1 : Int) + 1) := by rw [ex114]; exact ti_add hy90 (show (1 : Int32).toInt = 1 by decide) (by omega) (by omega)
                          refine v_iinc (v := x114) (lv' := [(0, .ref (ad 68)), (1, .int a), (2, .int b), (3, .int y10), (5, .int x87), (6, .int x114), (7, .int r109)]) C 5 [1, 2, 3, 4, 5, 0, 6] dX9_findOdds_192 rfl (ex114.symm) (by decide) rfl ?_
                          refine v_goto C 128 dX9_findOdds_195 (by decide) ?_
                          refine v_sub (lv' := [(0, .ref (ad 68)), (1, .int a), (2, .int b), (3, .int y10), (5, .int x87), (6, .int x114)]) [0, 1, 2, 3, 4, 5] rfl ?_
                          exact ih96 (d1 + 1) x114 od3 M3 E110 (show Int32.toInt x114 = ((d1 + 1 : Nat) : Int) by have := hx114; omega) (⟨_, hI112, hp41112, hW112, hS112, hE110_97, fun j g1 g2 g3 g4 => ((hO112 j (by omega) (by omega) (by omega)).trans ((hO103 j (by omega) (by omega) (by omega)).trans (v6d j (by omega) (by omega) (by omega) (by omega))))⟩) (by omega) (by omega) (dy_none (by omega) hdy) (by omega) (by omega)
                        · refine v_aload_n C 0 dX9_findOdds_174 rfl rfl ?_
                          refine v_iload C 6 dX9_findOdds_175 rfl ?_
                          refine v_iload_n C 1 dX9_findOdds_177 rfl rfl ?_
                          refine v_iload_n C 2 dX9_findOdds_178 rfl rfl ?_
                          refine v_cVv C dX9_findOdds_179 lX9_268 mX9_addOdd 68 (by omega) e68112 (by decide) rfl (y_addOdd l G n ad _ hn e68112 hE110_97 (M := M3) hp41112 (by omega) r109 a b hdv) ⟨by decide, by decide⟩ rfl (Nat.le_of_ble_eq_true rfl) ⟨Nat.zero_le _, Nat.zero_le _⟩ (fun E115 hq116 => ?_)
                          obtain ⟨im117, od117, M117, u1117, u2117, u3117, u4117, u5117, u6117, u7117⟩ := hq116
                          have hW117 := hW112.same (fun q hq => u1117 q (by omega)) u4117 (u7117 69 (by decide) (by decide)) (u7117 70 (by decide) (by decide))
                          have hR117 := hR112.go (fun j g1 g2 => u7117 j (by omega) (by omega))
                          have hS117 := hS112.go (fun j g1 g2 => u7117 j (by omega) (by omega))
                          have hT117 : ∀ z, z < 5 → TT z = TTz ic md rf rto ron rat rbe rtd rm fv (im117 18).toInt z := fun z hz => by rw [u1117 18 (by decide)]; exact hT112 z hz
                          have hI117 : ∀ q, q ≠ 7 → q ≠ 41 → im117 q = im q := fun q g1 g2 => (u1117 q g2).trans (hI112 q g1 g2)
                          have h16117 : (im117 16).toInt = (k : Int) := by rw [hI117 16 (by decide) (by decide)]; exact hk
                          refine v_aload_n C 0 dX9_findOdds_182 rfl rfl ?_
                          refine v_iload C 6 dX9_findOdds_183 rfl ?_
                          refine v_iconst (v := 1) C dX9_findOdds_185 (by decide) ?_
                          refine v_isub C dX9_findOdds_186 ?_
                          refine v_top (fun x118 ex118 => ?_)
                          have hx118 : x118.toInt = ((dyT (TT z1) d1) - 1) := by rw [ex118]; exact ti_sub hdv (show (1 : Int32).toInt = 1 by decide) (by omega) (by omega)
                          refine v_iload_n C 1 dX9_findOdds_187 rfl rfl ?_
                          refine v_iload_n C 2 dX9_findOdds_188 rfl rfl ?_
                          refine v_cVv C dX9_findOdds_189 lX9_268 mX9_addOdd 68 (by omega) u4117 (by decide) rfl (y_addOdd l G n ad _ hn u4117 u5117 (M := M117) u2117 (by omega) x118 a b hx118) ⟨by decide, by decide⟩ rfl (Nat.le_of_ble_eq_true rfl) ⟨Nat.zero_le _, Nat.zero_le _⟩ (fun E119 hq120 => ?_)
                          obtain ⟨im121, od121, M121, u1121, u2121, u3121, u4121, u5121, u6121, u7121⟩ := hq120
                          have hW121 := hW117.same (fun q hq => u1121 q (by omega)) u4121 (u7121 69 (by decide) (by decide)) (u7121 70 (by decide) (by decide))
                          have hR121 := hR117.go (fun j g1 g2 => u7121 j (by omega) (by omega))
                          have hS121 := hS117.go (fun j g1 g2 => u7121 j (by omega) (by omega))
                          have hT121 : ∀ z, z < 5 → TT z = TTz ic md rf rto ron rat rbe rtd rm fv (im121 18).toInt z := fun z hz => by rw [u1121 18 (by decide)]; exact hT117 z hz
                          have hI121 : ∀ q, q ≠ 7 → q ≠ 41 → im121 q = im q := fun q g1 g2 => (u1121 q g2).trans (hI117 q g1 g2)
                          have h16121 : (im121 16).toInt = (k : Int) := by rw [hI121 16 (by decide) (by decide)]; exact hk
                          obtain ⟨x122, ex122⟩ : ∃ y : Int32, y = y90 + 1 := ⟨_, rfl⟩
                          have hx122 : x122.toInt = ((d1 : Int) + 1) := by rw [ex122]; exact ti_add hy90 (show (1 : Int32).toInt = 1 by decide) (by omega) (by omega)
                          refine v_iinc (v := x122) (lv' := [(0, .ref (ad 68)), (1, .int a), (2, .int b), (3, .int y10), (5, .int x87), (6, .int x122), (7, .int r109)]) C 5 [1, 2, 3, 4, 5, 0, 6] dX9_findOdds_192 rfl (ex122.symm) (by decide) rfl ?_
                          refine v_goto C 128 dX9_findOdds_195 (by decide) ?_
                          refine v_sub (lv' := [(0, .ref (ad 68)), (1, .int a), (2, .int b), (3, .int y10), (5, .int x87), (6, .int x122)]) [0, 1, 2, 3, 4, 5] rfl ?_
                          exact ih96 (d1 + 1) x122 od121 M121 E119 (show Int32.toInt x122 = ((d1 + 1 : Nat) : Int) by have := hx122; omega) (⟨_, hI121, u2121, hW121, hS121, u5121, fun j g1 g2 g3 g4 => ((u7121 j (by omega) (by omega)).trans ((u7117 j (by omega) (by omega)).trans ((hO112 j (by omega) (by omega) (by omega)).trans ((hO103 j (by omega) (by omega) (by omega)).trans (v6d j (by omega) (by omega) (by omega) (by omega))))))⟩) (by omega) (by omega) (dy_step (by omega) (by omega) (by omega) hdy u6117 u6121) (by omega) (by omega)
                      · refine b_if_eq C 198 dX9_findOdds_141 (by decide) (show (0 : Int32).toInt = 0 by decide) (fun c123 => ?_) (fun c123 => absurd c123 (by decide))
                        obtain ⟨x124, ex124⟩ : ∃ y : Int32, y = y10 + 1 := ⟨_, rfl⟩
                        have hx124 : x124.toInt = ((z1 : Int) + 1) := by rw [ex124]; exact ti_add hy10 (show (1 : Int32).toInt = 1 by decide) (by omega) (by omega)
                        refine v_iinc (v := x124) (lv' := [(0, .ref (ad 68)), (1, .int a), (2, .int b), (3, .int x124), (5, .int x87), (6, .int y90)]) C 3 [1, 2, 3, 0, 4, 5] dX9_findOdds_198 rfl (ex124.symm) (by decide) rfl ?_
                        refine v_goto C 21 dX9_findOdds_201 (by decide) ?_
                        refine v_sub (lv' := [(0, .ref (ad 68)), (1, .int a), (2, .int b), (3, .int x124)]) [0, 1, 2, 3] rfl ?_
                        exact ih15 (z1 + 1) x124 od3 M3 E101 (show Int32.toInt x124 = ((z1 + 1 : Nat) : Int) by have := hx124; omega) (⟨_, hI103, hp41103, hW103, hS103, hE101_97, fun j g1 g2 g3 g4 => ((hO103 j (by omega) (by omega) (by omega)).trans (v6d j (by omega) (by omega) (by omega) (by omega)))⟩) (by omega) (os_step (hokT z1 (by omega)) (Nat.le_refl 1) (by omega) (fun i g1 g2 => by omega) (fun i g1 g2 => by omega) hset hch hdy (by omega) (by omega)) (by omega) (by omega)
                refine v_sub (lv' := [(0, .ref (ad 68)), (1, .int a), (2, .int b), (3, .int y10), (5, .int x87), (6, .int x85)]) [0, 1, 2, 3, 5, 6] rfl ?_
                exact LP89 100000 d0 x85 od2 M2 E76 (show Int32.toInt x85 = ((d0 : Nat) : Int) by have := hd0v; omega) (⟨_, hIc, w2, hWc, hSc, w4, fun j g1 g2 g3 g4 => ((w5 j (by omega) (by omega)).trans ((hO73 j (by omega) (by omega) (by omega)).trans (v6o j (by omega) (by omega) (by omega) (by omega))))⟩) (by omega) (by omega) (fun x => ⟨Or.inl, fun q => q.elim id (fun z => by obtain ⟨-, d, i1, i2, -⟩ := z; omega)⟩) (by omega) (by omega)
              · refine v_iconst (v := 0) C dX9_findOdds_120 (by decide) ?_
                refine v_goto C 126 dX9_findOdds_121 (by decide) ?_
                refine v_istore (lv' := [(0, .ref (ad 68)), (1, .int a), (2, .int b), (3, .int y10), (4, .int x85), (5, .int x87), (6, .int 0)]) C [1, 2, 3, 4, 5, 6, 0] dX9_findOdds_126 (by decide) rfl ?_
                have LP125 : ∀ (t : Nat) (d1 : Nat) (y126 : Int32) (od3 : Nat → Int32) (M3 : Nat) (E127 : Nat → va_E), (y126.toInt = (d1 : Int)) → (OSt G ad E E127 im ic md TT od3 M3) → (0 ≤ d1) → ((d1 : Int) ≤ b.toInt / 1440 + 3) → (∀ x, inS od3 M3 x ↔ inS od2 M2 x ∨ dyI (TT z1) (YSf md (ic 4).toInt (ic 5).toInt 100) a.toInt b.toInt 0 d1 x) → (M3 ≤ M2 + 2 * (d1 - 0)) → b.toInt / 1440 + 3 - (d1 : Int) < (t : Int) → V X G A 8 (QV X G A (n) ad (fun E' => ∃ (im1 od1 : Nat → Int32) (L : Nat), (∀ q, q ≠ 7 → q ≠ 41 → im1 q = im q) ∧ (im1 41).toInt = (L : Int) ∧ L ≤ 26002 ∧ MCal G ad E' im1 ic md ∧ ZMs G E' 5 TT ∧ E' 97 = aI G 40000 od1 ∧ isEn (isOd k TT (YSf md (ic 4).toInt (ic 5).toInt 100) a.toInt b.toInt) L (fun i => (od1 i).toInt) ∧ ∀ j, j ≠ 68 → j ≠ 70 → (j < 79 ∨ 84 < j) → j ≠ 97 → E' j = E j)) (n) ad 0 0 E127 128 [(0, .ref (ad 68)), (1, .int a), (2, .int b), (3, .int y10), (5, .int x87), (6, .int y126)] [] := by
                  intro t131
                  induction t131 with
                  | zero => intro d1 y126 od3 M3 E127 hy126 hI128 hq129 hq130 hdy hMd hm133; exfalso; omega
                  | succ t131 ih132 =>
                    intro d1 y126 od3 M3 E127 hy126 hI128 hq129 hq130 hdy hMd hm133
                    obtain ⟨imd, v1d, v2d, v3d, v4d, v5d, v6d⟩ := id hI128
                    have e68d := v3d.2.2.1
                    have hRd := hR.go (fun j g1 g2 => v6d j (by omega) (by omega) (by omega) (by omega))
                    have hTd : ∀ z, z < 5 → TT z = TTz ic md rf rto ron rat rbe rtd rm fv (imd 18).toInt z := fun z hz => by rw [v1d 18 (by decide) (by decide)]; exact hTT z hz
                    have h16d : (imd 16).toInt = (k : Int) := by rw [v1d 16 (by decide) (by decide)]; exact hk
                    refine v_iload C 5 dX9_findOdds_128 rfl ?_
                    refine v_iload C 4 dX9_findOdds_130 rfl ?_
                    refine b_icmp_gt C 198 dX9_findOdds_132 (by decide) hy126 hx87 (fun c134 => ?_) (fun c134 => ?_)
                    · obtain ⟨x135, ex135⟩ : ∃ y : Int32, y = y10 + 1 := ⟨_, rfl⟩
                      have hx135 : x135.toInt = ((z1 : Int) + 1) := by rw [ex135]; exact ti_add hy10 (show (1 : Int32).toInt = 1 by decide) (by omega) (by omega)
                      refine v_iinc (v := x135) (lv' := [(0, .ref (ad 68)), (1, .int a), (2, .int b), (3, .int x135), (5, .int x87), (6, .int y126)]) C 3 [1, 2, 3, 0, 4, 5] dX9_findOdds_198 rfl (ex135.symm) (by decide) rfl ?_
                      refine v_goto C 21 dX9_findOdds_201 (by decide) ?_
                      refine v_sub (lv' := [(0, .ref (ad 68)), (1, .int a), (2, .int b), (3, .int x135)]) [0, 1, 2, 3] rfl ?_
                      exact ih15 (z1 + 1) x135 od3 M3 E127 (show Int32.toInt x135 = ((z1 + 1 : Nat) : Int) by have := hx135; omega) (⟨_, v1d, v2d, v3d, v4d, v5d, fun j g1 g2 g3 g4 => (v6d j (by omega) (by omega) (by omega) (by omega))⟩) (by omega) (os_step (hokT z1 (by omega)) (Nat.le_refl 1) (by omega) (fun i g1 g2 => by omega) (fun i g1 g2 => by omega) hset hch hdy (by omega) (by omega)) (by omega) (by omega)
                    · refine v_aload_n C 0 dX9_findOdds_135 rfl rfl ?_
                      refine v_iload C 5 dX9_findOdds_136 rfl ?_
                      refine v_cVi C dX9_findOdds_138 lX9_141 mX9_isDay 68 (by omega) e68d (by decide) rfl (d_isDay l G n ad _ hn v3d y126) ⟨by decide, by decide⟩ rfl (Nat.le_of_ble_eq_true rfl) ⟨Nat.zero_le _, Nat.zero_le _⟩ (fun r136 E137 hq138 => ?_)
                      obtain ⟨hday, hq138⟩ := hq138
                      have hFE137 := FQ.mr v4d hq138
                      obtain ⟨im139, hi139, hW139, hS139, hO139⟩ := id hFE137
                      have hR139 := hRd.go (fun j h1 h2 => hO139 j (by omega) (by omega) (by omega))
                      have hT139 : ∀ z, z < 5 → TT z = TTz ic md rf rto ron rat rbe rtd rm fv (im139 18).toInt z := fun z hz => by rw [hi139 18 (by decide)]; exact hTd z hz
                      have hI139 : ∀ q, q ≠ 7 → q ≠ 41 → im139 q = im q := fun q g1 g2 => (hi139 q g1).trans (v1d q g1 g2)
                      have hE137_97 := (hO139 97 (by decide) (by decide) (by decide)).trans v5d
                      have e68139 := hW139.2.2.1
                      have hp16139 : (im139 16).toInt = (k : Int) := by rw [hi139 16 (by decide)]; exact h16d
                      have hp41139 : (im139 41).toInt = (M3 : Int) := by rw [hi139 41 (by decide)]; exact v2d
                      rw [hy126] at hday
                      rcases hday with ⟨rfl, hday⟩ | ⟨rfl, hday⟩
                      · refine b_if_eq C 198 dX9_findOdds_141 (by decide) (show (1 : Int32).toInt = 1 by decide) (fun c140 => absurd c140 (by decide)) (fun c140 => ?_)
                        refine v_aload_n C 0 dX9_findOdds_144 rfl rfl ?_
                        refine v_iload_n C 3 dX9_findOdds_145 rfl rfl ?_
                        refine v_sipush (v := 1440) C dX9_findOdds_146 (by decide) ?_
                        refine v_iload C 5 dX9_findOdds_149 rfl ?_
                        refine v_imul C dX9_findOdds_151 ?_
                        refine v_top (fun x141 ex141 => ?_)
                        have hx141 : x141.toInt = (1440 * (d1 : Int)) := by rw [ex141]; exact ti_mul (show (1440 : Int32).toInt = 1440 by decide) hy126 (by omega) (by omega)
                        refine v_sipush (v := 1440) C dX9_findOdds_152 (by decide) ?_
                        refine v_iload C 5 dX9_findOdds_155 rfl ?_
                        refine v_imul C dX9_findOdds_157 ?_
                        refine v_top (fun x142 ex142 => ?_)
                        have hx142 : x142.toInt = (1440 * (d1 : Int)) := by rw [ex142]; exact ti_mul (show (1440 : Int32).toInt = 1440 by decide) hy126 (by omega) (by omega)
                        refine v_sipush (v := 1440) C dX9_findOdds_158 (by decide) ?_
                        refine v_iadd C dX9_findOdds_161 ?_
                        refine v_top (fun x143 ex143 => ?_)
                        have hx143 : x143.toInt = ((1440 * (d1 : Int)) + 1440) := by rw [ex143]; exact ti_add hx142 (show (1440 : Int32).toInt = 1440 by decide) (by omega) (by omega)
                        refine v_iconst (v := 1) C dX9_findOdds_162 (by decide) ?_
                        refine v_isub C dX9_findOdds_163 ?_
                        refine v_top (fun x144 ex144 => ?_)
                        have hx144 : x144.toInt = (((1440 * (d1 : Int)) + 1440) - 1) := by rw [ex144]; exact ti_sub hx143 (show (1 : Int32).toInt = 1 by decide) (by omega) (by omega)
                        refine v_cVi C dX9_findOdds_164 lX9_236 mX9_firstFrom 68 (by omega) e68139 (by decide) rfl (y_firstFrom l G n ad _ hn hW139 hR139 hS139 (k := 5) (zz := z1) (by omega) (by omega) hT139 hV (T := TT z1) rfl (c := (TT z1).1) rfl y10 x141 x144 hy10 (by omega)) ⟨by decide, by decide⟩ rfl (Nat.le_of_ble_eq_true rfl) ⟨Nat.zero_le _, Nat.zero_le _⟩ (fun r145 E146 hq147 => ?_)
                        obtain ⟨hFf, hff⟩ := hq147
                        have hdv : r145.toInt = dyT (TT z1) d1 := by rw [hff, hx141, hx144, show (((1440 * (d1 : Int)) + 1440) - 1) = 1440 * (d1 : Int) + 1439 by omega]; rfl
                        have hdr := dy_rng (d := d1) (hokT z1 (by omega))
                        obtain ⟨im148, hi148, hW148, hS148, hO148⟩ := id hFf
                        have hR148 := hR139.go (fun j h1 h2 => hO148 j (by omega) (by omega) (by omega))
                        have hT148 : ∀ z, z < 5 → TT z = TTz ic md rf rto ron rat rbe rtd rm fv (im148 18).toInt z := fun z hz => by rw [hi148 18 (by decide)]; exact hT139 z hz
                        have hI148 : ∀ q, q ≠ 7 → q ≠ 41 → im148 q = im q := fun q g1 g2 => (hi148 q g1).trans (hI139 q g1 g2)
                        have hE146_97 := (hO148 97 (by decide) (by decide) (by decide)).trans hE137_97
                        have e68148 := hW148.2.2.1
                        have hp16148 : (im148 16).toInt = (k : Int) := by rw [hi148 16 (by decide)]; exact hp16139
                        have hp41148 : (im148 41).toInt = (M3 : Int) := by rw [hi148 41 (by decide)]; exact hp41139
                        refine v_istore (lv' := [(0, .ref (ad 68)), (1, .int a), (2, .int b), (3, .int y10), (5, .int x87), (6, .int y126), (7, .int r145)]) C [1, 2, 3, 4, 5, 6, 0] dX9_findOdds_167 (by decide) rfl ?_
                        refine v_iload C 6 dX9_findOdds_169 rfl ?_
                        refine b_if_lt C 192 dX9_findOdds_171 (by decide) hdv (fun c149 => ?_) (fun c149 => ?_)
                        · obtain ⟨x150, ex150⟩ : ∃ y : Int32, y = y126 + 1 := ⟨_, rfl⟩
                          have hx150 : x150.toInt = ((d1 : Int) + 1) := by rw [ex150]; exact ti_add hy126 (show (1 : Int32).toInt = 1 by decide) (by omega) (by omega)
                          refine v_iinc (v := x150) (lv' := [(0, .ref (ad 68)), (1, .int a), (2, .int b), (3, .int y10), (5, .int x87), (6, .int x150), (7, .int r145)]) C 5 [1, 2, 3, 4, 5, 0, 6] dX9_findOdds_192 rfl (ex150.symm) (by decide) rfl ?_
                          refine v_goto C 128 dX9_findOdds_195 (by decide) ?_
                          refine v_sub (lv' := [(0, .ref (ad 68)), (1, .int a), (2, .int b), (3, .int y10), (5, .int x87), (6, .int x150)]) [0, 1, 2, 3, 4, 5] rfl ?_
                          exact ih132 (d1 + 1) x150 od3 M3 E146 (show Int32.toInt x150 = ((d1 + 1 : Nat) : Int) by have := hx150; omega) (⟨_, hI148, hp41148, hW148, hS148, hE146_97, fun j g1 g2 g3 g4 => ((hO148 j (by omega) (by omega) (by omega)).trans ((hO139 j (by omega) (by omega) (by omega)).trans (v6d j (by omega) (by omega) (by omega) (by omega))))⟩) (by omega) (by omega) (dy_none (by omega) hdy) (by omega) (by omega)
                        · refine v_aload_n C 0 dX9_findOdds_174 rfl rfl ?_
                          refine v_iload C 6 dX9_findOdds_175 rfl ?_
                          refine v_iload_n C 1 dX9_findOdds_177 rfl rfl ?_
                          refine v_iload_n C 2 dX9_findOdds_178 rfl rfl ?_
                          refine v_cVv C dX9_findOdds_179 lX9_268 mX9_addOdd 68 (by omega) e68148 (by decide) rfl (y_addOdd l G n ad _ hn e68148 hE146_97 (M := M3) hp41148 (by omega) r145 a b hdv) ⟨by decide, by decide⟩ rfl (Nat.le_of_ble_eq_true rfl) ⟨Nat.zero_le _, Nat.zero_le _⟩ (fun E151 hq152 => ?_)
                          obtain ⟨im153, od153, M153, u1153, u2153, u3153, u4153, u5153, u6153, u7153⟩ := hq152
                          have hW153 := hW148.same (fun q hq => u1153 q (by omega)) u4153 (u7153 69 (by decide) (by decide)) (u7153 70 (by decide) (by decide))
                          have hR153 := hR148.go (fun j g1 g2 => u7153 j (by omega) (by omega))
                          have hS153 := hS148.go (fun j g1 g2 => u7153 j (by omega) (by omega))
                          have hT153 : ∀ z, z < 5 → TT z = TTz ic md rf rto ron rat rbe rtd rm fv (im153 18).toInt z := fun z hz => by rw [u1153 18 (by decide)]; exact hT148 z hz
                          have hI153 : ∀ q, q ≠ 7 → q ≠ 41 → im153 q = im q := fun q g1 g2 => (u1153 q g2).trans (hI148 q g1 g2)
                          have h16153 : (im153 16).toInt = (k : Int) := by rw [hI153 16 (by decide) (by decide)]; exact hk
                          refine v_aload_n C 0 dX9_findOdds_182 rfl rfl ?_
                          refine v_iload C 6 dX9_findOdds_183 rfl ?_
                          refine v_iconst (v := 1) C dX9_findOdds_185 (by decide) ?_
                          refine v_isub C dX9_findOdds_186 ?_
                          refine v_top (fun x154 ex154 => ?_)
                          have hx154 : x154.toInt = ((dyT (TT z1) d1) - 1) := by rw [ex154]; exact ti_sub hdv (show (1 : Int32).toInt = 1 by decide) (by omega) (by omega)
                          refine v_iload_n C 1 dX9_findOdds_187 rfl rfl ?_
                          refine v_iload_n C 2 dX9_findOdds_188 rfl rfl ?_
                          refine v_cVv C dX9_findOdds_189 lX9_268 mX9_addOdd 68 (by omega) u4153 (by decide) rfl (y_addOdd l G n ad _ hn u4153 u5153 (M := M153) u2153 (by omega) x154 a b hx154) ⟨by decide, by decide⟩ rfl (Nat.le_of_ble_eq_true rfl) ⟨Nat.zero_le _, Nat.zero_le _⟩ (fun E155 hq156 => ?_)
                          obtain ⟨im157, od157, M157, u1157, u2157, u3157, u4157, u5157, u6157, u7157⟩ := hq156
                          have hW157 := hW153.same (fun q hq => u1157 q (by omega)) u4157 (u7157 69 (by decide) (by decide)) (u7157 70 (by decide) (by decide))
                          have hR157 := hR153.go (fun j g1 g2 => u7157 j (by omega) (by omega))
                          have hS157 := hS153.go (fun j g1 g2 => u7157 j (by omega) (by omega))
                          have hT157 : ∀ z, z < 5 → TT z = TTz ic md rf rto ron rat rbe rtd rm fv (im157 18).toInt z := fun z hz => by rw [u1157 18 (by decide)]; exact hT153 z hz
                          have hI157 : ∀ q, q ≠ 7 → q ≠ 41 → im157 q = im q := fun q g1 g2 => (u1157 q g2).trans (hI153 q g1 g2)
                          have h16157 : (im157 16).toInt = (k : Int) := by rw [hI157 16 (by decide) (by decide)]; exact hk
                          obtain ⟨x158, ex158⟩ : ∃ y : Int32, y = y126 + 1 := ⟨_, rfl⟩
                          have hx158 : x158.toInt = ((d1 : Int) + 1) := by rw [ex158]; exact ti_add hy126 (show (1 : Int32).toInt = 1 by decide) (by omega) (by omega)
                          refine v_iinc (v := x158) (lv' := [(0, .ref (ad 68)), (1, .int a), (2, .int b), (3, .int y10), (5, .int x87), (6, .int x158), (7, .int r145)]) C 5 [1, 2, 3, 4, 5, 0, 6] dX9_findOdds_192 rfl (ex158.symm) (by decide) rfl ?_
                          refine v_goto C 128 dX9_findOdds_195 (by decide) ?_
                          refine v_sub (lv' := [(0, .ref (ad 68)), (1, .int a), (2, .int b), (3, .int y10), (5, .int x87), (6, .int x158)]) [0, 1, 2, 3, 4, 5] rfl ?_
                          exact ih132 (d1 + 1) x158 od157 M157 E155 (show Int32.toInt x158 = ((d1 + 1 : Nat) : Int) by have := hx158; omega) (⟨_, hI157, u2157, hW157, hS157, u5157, fun j g1 g2 g3 g4 => ((u7157 j (by omega) (by omega)).trans ((u7153 j (by omega) (by omega)).trans ((hO148 j (by omega) (by omega) (by omega)).trans ((hO139 j (by omega) (by omega) (by omega)).trans (v6d j (by omega) (by omega) (by omega) (by omega))))))⟩) (by omega) (by omega) (dy_step (by omega) (by omega) (by omega) hdy u6153 u6157) (by omega) (by omega)
                      · refine b_if_eq C 198 dX9_findOdds_141 (by decide) (show (0 : Int32).toInt = 0 by decide) (fun c159 => ?_) (fun c159 => absurd c159 (by decide))
                        obtain ⟨x160, ex160⟩ : ∃ y : Int32, y = y10 + 1 := ⟨_, rfl⟩
                        have hx160 : x160.toInt = ((z1 : Int) + 1) := by rw [ex160]; exact ti_add hy10 (show (1 : Int32).toInt = 1 by decide) (by omega) (by omega)
                        refine v_iinc (v := x160) (lv' := [(0, .ref (ad 68)), (1, .int a), (2, .int b), (3, .int x160), (5, .int x87), (6, .int y126)]) C 3 [1, 2, 3, 0, 4, 5] dX9_findOdds_198 rfl (ex160.symm) (by decide) rfl ?_
                        refine v_goto C 21 dX9_findOdds_201 (by decide) ?_
                        refine v_sub (lv' := [(0, .ref (ad 68)), (1, .int a), (2, .int b), (3, .int x160)]) [0, 1, 2, 3] rfl ?_
                        exact ih15 (z1 + 1) x160 od3 M3 E137 (show Int32.toInt x160 = ((z1 + 1 : Nat) : Int) by have := hx160; omega) (⟨_, hI139, hp41139, hW139, hS139, hE137_97, fun j g1 g2 g3 g4 => ((hO139 j (by omega) (by omega) (by omega)).trans (v6d j (by omega) (by omega) (by omega) (by omega)))⟩) (by omega) (os_step (hokT z1 (by omega)) (Nat.le_refl 1) (by omega) (fun i g1 g2 => by omega) (fun i g1 g2 => by omega) hset hch hdy (by omega) (by omega)) (by omega) (by omega)
                refine v_sub (lv' := [(0, .ref (ad 68)), (1, .int a), (2, .int b), (3, .int y10), (5, .int x87), (6, .int 0)]) [0, 1, 2, 3, 5, 6] rfl ?_
                exact LP125 100000 0 0 od2 M2 E76 (show Int32.toInt 0 = ((0 : Nat) : Int) by have := (show (0 : Int32).toInt = 0 by decide); omega) (⟨_, hIc, w2, hWc, hSc, w4, fun j g1 g2 g3 g4 => ((w5 j (by omega) (by omega)).trans ((hO73 j (by omega) (by omega) (by omega)).trans (v6o j (by omega) (by omega) (by omega) (by omega))))⟩) (by omega) (by omega) (fun x => ⟨Or.inl, fun q => q.elim id (fun z => by obtain ⟨-, d, i1, i2, -⟩ := z; omega)⟩) (by omega) (by omega)
            · have hsf := (show (sf1 (801 * z1 + j1)).toInt = (TT z1).2.1 j1 from (hZ1.2 j1 (by omega)).1)
              have hsb := hokz.2.1 j1 (by omega)
              refine v_aload_n C 0 dX9_findOdds_48 rfl rfl ?_
              refine v_getr C 68 dX9_findOdds_49 fX9_61 (by omega) w3 rfl rfl ?_
              refine v_sipush (v := 801) C dX9_findOdds_52 (by decide) ?_
              refine v_iload_n C 3 dX9_findOdds_55 rfl rfl ?_
              refine v_imul C dX9_findOdds_56 ?_
              refine v_top (fun x161 ex161 => ?_)
              have hx161 : x161.toInt = (801 * (z1 : Int)) := by rw [ex161]; exact ti_mul (show (801 : Int32).toInt = 801 by decide) hy10 (by omega) (by omega)
              refine v_iload C 4 dX9_findOdds_57 rfl ?_
              refine v_iadd C dX9_findOdds_59 ?_
              refine v_top (fun x162 ex162 => ?_)
              have hx162 : x162.toInt = ((801 * (z1 : Int)) + (j1 : Int)) := by rw [ex162]; exact ti_add hx161 hy75 (by omega) (by omega)
              refine v_ald (v := sf1 (801 * z1 + j1)) C 80 dX9_findOdds_60 (by omega) h80c (ti_in hx162 (by omega) (by omega)) (by rw [ti_cl hx162, show Int.toNat ((801 * (z1 : Int)) + (j1 : Int)) = 801 * z1 + j1 by omega]) ?_
              refine v_istore (lv' := [(0, .ref (ad 68)), (1, .int a), (2, .int b), (3, .int y10), (4, .int y75), (5, .int (sf1 (801 * z1 + j1)))]) C [1, 2, 3, 4, 5, 0] dX9_findOdds_61 (by decide) rfl ?_
              refine v_aload_n C 0 dX9_findOdds_63 rfl rfl ?_
              refine v_iload C 5 dX9_findOdds_64 rfl ?_
              refine v_iconst (v := 1) C dX9_findOdds_66 (by decide) ?_
              refine v_isub C dX9_findOdds_67 ?_
              refine v_top (fun x163 ex163 => ?_)
              have hx163 : x163.toInt = (((TT z1).2.1 j1) - 1) := by rw [ex163]; exact ti_sub hsf (show (1 : Int32).toInt = 1 by decide) (by omega) (by omega)
              refine v_iload_n C 1 dX9_findOdds_68 rfl rfl ?_
              refine v_iload_n C 2 dX9_findOdds_69 rfl rfl ?_
              refine v_cVv C dX9_findOdds_70 lX9_268 mX9_addOdd 68 (by omega) w3 (by decide) rfl (y_addOdd l G n ad _ hn w3 w4 (M := M2) w2 (by omega) x163 a b hx163) ⟨by decide, by decide⟩ rfl (Nat.le_of_ble_eq_true rfl) ⟨Nat.zero_le _, Nat.zero_le _⟩ (fun E164 hq165 => ?_)
              obtain ⟨im166, od166, M166, u1166, u2166, u3166, u4166, u5166, u6166, u7166⟩ := hq165
              have hW166 := hWc.same (fun q hq => u1166 q (by omega)) u4166 (u7166 69 (by decide) (by decide)) (u7166 70 (by decide) (by decide))
              have hR166 := hRc.go (fun j g1 g2 => u7166 j (by omega) (by omega))
              have hS166 := hSc.go (fun j g1 g2 => u7166 j (by omega) (by omega))
              have hT166 : ∀ z, z < 5 → TT z = TTz ic md rf rto ron rat rbe rtd rm fv (im166 18).toInt z := fun z hz => by rw [u1166 18 (by decide)]; exact hTc z hz
              have hI166 : ∀ q, q ≠ 7 → q ≠ 41 → im166 q = im q := fun q g1 g2 => (u1166 q g2).trans (hIc q g1 g2)
              have h16166 : (im166 16).toInt = (k : Int) := by rw [hI166 16 (by decide) (by decide)]; exact hk
              have hE164_80 := (u7166 80 (by decide) (by decide)).trans h80c
              have hE164_82 := (u7166 82 (by decide) (by decide)).trans h82c
              refine v_aload_n C 0 dX9_findOdds_73 rfl rfl ?_
              refine v_iload C 5 dX9_findOdds_74 rfl ?_
              refine v_iload_n C 1 dX9_findOdds_76 rfl rfl ?_
              refine v_iload_n C 2 dX9_findOdds_77 rfl rfl ?_
              refine v_cVv C dX9_findOdds_78 lX9_268 mX9_addOdd 68 (by omega) u4166 (by decide) rfl (y_addOdd l G n ad _ hn u4166 u5166 (M := M166) u2166 (by omega) (sf1 (801 * z1 + j1)) a b hsf) ⟨by decide, by decide⟩ rfl (Nat.le_of_ble_eq_true rfl) ⟨Nat.zero_le _, Nat.zero_le _⟩ (fun E167 hq168 => ?_)
              obtain ⟨im169, od169, M169, u1169, u2169, u3169, u4169, u5169, u6169, u7169⟩ := hq168
              have hW169 := hW166.same (fun q hq => u1169 q (by omega)) u4169 (u7169 69 (by decide) (by decide)) (u7169 70 (by decide) (by decide))
              have hR169 := hR166.go (fun j g1 g2 => u7169 j (by omega) (by omega))
              have hS169 := hS166.go (fun j g1 g2 => u7169 j (by omega) (by omega))
              have hT169 : ∀ z, z < 5 → TT z = TTz ic md rf rto ron rat rbe rtd rm fv (im169 18).toInt z := fun z hz => by rw [u1169 18 (by decide)]; exact hT166 z hz
              have hI169 : ∀ q, q ≠ 7 → q ≠ 41 → im169 q = im q := fun q g1 g2 => (u1169 q g2).trans (hI166 q g1 g2)
              have h16169 : (im169 16).toInt = (k : Int) := by rw [hI169 16 (by decide) (by decide)]; exact hk
              have hE167_80 := (u7169 80 (by decide) (by decide)).trans hE164_80
              have hE167_82 := (u7169 82 (by decide) (by decide)).trans hE164_82
              refine v_aload_n C 0 dX9_findOdds_81 rfl rfl ?_
              refine v_iload C 5 dX9_findOdds_82 rfl ?_
              refine v_iconst (v := 1) C dX9_findOdds_84 (by decide) ?_
              refine v_iadd C dX9_findOdds_85 ?_
              refine v_top (fun x170 ex170 => ?_)
              have hx170 : x170.toInt = (((TT z1).2.1 j1) + 1) := by rw [ex170]; exact ti_add hsf (show (1 : Int32).toInt = 1 by decide) (by omega) (by omega)
              refine v_iload_n C 1 dX9_findOdds_86 rfl rfl ?_
              refine v_iload_n C 2 dX9_findOdds_87 rfl rfl ?_
              refine v_cVv C dX9_findOdds_88 lX9_268 mX9_addOdd 68 (by omega) u4169 (by decide) rfl (y_addOdd l G n ad _ hn u4169 u5169 (M := M169) u2169 (by omega) x170 a b hx170) ⟨by decide, by decide⟩ rfl (Nat.le_of_ble_eq_true rfl) ⟨Nat.zero_le _, Nat.zero_le _⟩ (fun E171 hq172 => ?_)
              obtain ⟨im173, od173, M173, u1173, u2173, u3173, u4173, u5173, u6173, u7173⟩ := hq172
              have hW173 := hW169.same (fun q hq => u1173 q (by omega)) u4173 (u7173 69 (by decide) (by decide)) (u7173 70 (by decide) (by decide))
              have hR173 := hR169.go (fun j g1 g2 => u7173 j (by omega) (by omega))
              have hS173 := hS169.go (fun j g1 g2 => u7173 j (by omega) (by omega))
              have hT173 : ∀ z, z < 5 → TT z = TTz ic md rf rto ron rat rbe rtd rm fv (im173 18).toInt z := fun z hz => by rw [u1173 18 (by decide)]; exact hT169 z hz
              have hI173 : ∀ q, q ≠ 7 → q ≠ 41 → im173 q = im q := fun q g1 g2 => (u1173 q g2).trans (hI169 q g1 g2)
              have h16173 : (im173 16).toInt = (k : Int) := by rw [hI173 16 (by decide) (by decide)]; exact hk
              have hE171_80 := (u7173 80 (by decide) (by decide)).trans hE167_80
              have hE171_82 := (u7173 82 (by decide) (by decide)).trans hE167_82
              obtain ⟨x174, ex174⟩ : ∃ y : Int32, y = y75 + 1 := ⟨_, rfl⟩
              have hx174 : x174.toInt = ((j1 : Int) + 1) := by rw [ex174]; exact ti_add hy75 (show (1 : Int32).toInt = 1 by decide) (by omega) (by omega)
              refine v_iinc (v := x174) (lv' := [(0, .ref (ad 68)), (1, .int a), (2, .int b), (3, .int y10), (4, .int x174), (5, .int (sf1 (801 * z1 + j1)))]) C 4 [1, 2, 3, 4, 0, 5] dX9_findOdds_91 rfl (ex174.symm) (by decide) rfl ?_
              refine v_goto C 37 dX9_findOdds_94 (by decide) ?_
              refine v_sub (lv' := [(0, .ref (ad 68)), (1, .int a), (2, .int b), (3, .int y10), (4, .int x174)]) [0, 1, 2, 3, 4] rfl ?_
              exact ih81 (j1 + 1) x174 od173 M173 E171 (show Int32.toInt x174 = ((j1 + 1 : Nat) : Int) by have := hx174; omega) (⟨_, (fun q g => (u1173 q g).trans ((u1169 q g).trans ((u1166 q g).trans (w1 q g)))), u2173, u4173, u5173, fun j g1 g2 => ((u7173 j (by omega) (by omega)).trans ((u7169 j (by omega) (by omega)).trans ((u7166 j (by omega) (by omega)).trans (w5 j (by omega) (by omega)))))⟩) (by omega) (by omega) (ch_step (by omega) hch u6166 u6169 u6173) (by omega) (by omega)
        exact LP74 100000 1 1 od1 M1 E71 (show Int32.toInt 1 = ((1 : Nat) : Int) by have := (show (1 : Int32).toInt = 1 by decide); omega) (⟨_, fun _ _ => rfl, hp4173, e6873, hE71_97, fun _ _ _ => rfl⟩) (by omega) (by omega) (fun x => ⟨Or.inl, fun q => q.elim id (fun z => by obtain ⟨-, i, i1, i2, -⟩ := z; omega)⟩) (by omega) (by omega)
  exact LP9 100000 0 0 od8 M8 E6 (show Int32.toInt 0 = ((0 : Nat) : Int) by have := (show (0 : Int32).toInt = 0 by decide); omega) (⟨_, hI8, u28, hW8, hS8, u58, fun j g1 g2 g3 g4 => ((u78 j (by omega) (by omega)).trans ((u75 j (by omega) (by omega)).trans (oE1 j (by omega))))⟩) (by omega) (os_0 (by omega) u65 u68) (by omega) (by omega)

set_option maxRecDepth 20000 in
theorem y_areOdds (l : Launch) (G : Gl) (n : Nat) (ad : Nat → Nat) (E : Nat → va_E) (a : Int32) (b : Int32) : CtI l G yX9_areOdds cX9_areOdds 2 .boolean 2 42 (n) ad E [.int a, .int b] (fun r E' => ((r = 1 ∧ (okOD a.toInt b.toInt)) ∨ (r = 0 ∧ ¬ (okOD a.toInt b.toInt))) ∧ E = E') := by
  refine CtI.of (by decide) (Nat.le_of_ble_eq_true rfl) (fun X A C => ?_)
  refine v_sub (lv' := [(0, .int a), (1, .int b)]) [0, 1] rfl ?_
  refine v_iload_n C 0 dX9_areOdds_0 rfl rfl ?_
  refine v_cSp C dX9_areOdds_1 lX9_179 mX9_isMoment (y_isMoment l G _ ad _  a) ⟨by decide, by decide⟩ rfl (Nat.le_of_ble_eq_true rfl) ⟨Nat.zero_le _, Nat.zero_le _⟩ (fun r1 hp2 => ?_)
  rcases hp2 with ⟨rfl, hp2⟩ | ⟨rfl, hp2⟩
  · refine b_if_eq C 32 dX9_areOdds_4 (by decide) (show (1 : Int32).toInt = 1 by decide) (fun c3 => absurd c3 (by decide)) (fun c3 => ?_)
    refine v_iload_n C 1 dX9_areOdds_7 rfl rfl ?_
    refine v_cSp C dX9_areOdds_8 lX9_179 mX9_isMoment (y_isMoment l G _ ad _  b) ⟨by decide, by decide⟩ rfl (Nat.le_of_ble_eq_true rfl) ⟨Nat.zero_le _, Nat.zero_le _⟩ (fun r4 hp5 => ?_)
    rcases hp5 with ⟨rfl, hp5⟩ | ⟨rfl, hp5⟩
    · refine b_if_eq C 32 dX9_areOdds_11 (by decide) (show (1 : Int32).toInt = 1 by decide) (fun c6 => absurd c6 (by decide)) (fun c6 => ?_)
      refine v_iload_n C 0 dX9_areOdds_14 rfl rfl ?_
      refine v_iload_n C 1 dX9_areOdds_15 rfl rfl ?_
      refine b_icmp_gt C 32 dX9_areOdds_16 (by decide) (rfl : Int32.toInt a = _) (rfl : Int32.toInt b = _) (fun c7 => ?_) (fun c7 => ?_)
      · refine v_iconst (v := 0) C dX9_areOdds_32 (by decide) ?_
        exact v_ret C dX9_areOdds_33 rfl rfl ⟨Or.inr ⟨rfl, by unfold okOD; omega⟩, rfl⟩
      · refine v_iload_n C 1 dX9_areOdds_19 rfl rfl ?_
        refine v_iload_n C 0 dX9_areOdds_20 rfl rfl ?_
        refine v_isub C dX9_areOdds_21 ?_
        refine v_top (fun x8 ex8 => ?_)
        have hx8 : x8.toInt = (b.toInt - a.toInt) := by rw [ex8]; exact ti_sub (rfl : Int32.toInt b = _) (rfl : Int32.toInt a = _) (by omega) (by omega)
        refine v_ldcw C dX9_areOdds_22 kX9_276 ?_
        refine b_icmp_gt C 32 dX9_areOdds_25 (by decide) hx8 (show (2000000 : Int32).toInt = 2000000 by decide) (fun c9 => ?_) (fun c9 => ?_)
        · refine v_iconst (v := 0) C dX9_areOdds_32 (by decide) ?_
          exact v_ret C dX9_areOdds_33 rfl rfl ⟨Or.inr ⟨rfl, by unfold okOD; omega⟩, rfl⟩
        · refine v_iconst (v := 1) C dX9_areOdds_28 (by decide) ?_
          refine v_goto C 33 dX9_areOdds_29 (by decide) ?_
          exact v_ret C dX9_areOdds_33 rfl rfl ⟨Or.inl ⟨rfl, by unfold okOD; omega⟩, rfl⟩
    · refine b_if_eq C 32 dX9_areOdds_11 (by decide) (show (0 : Int32).toInt = 0 by decide) (fun c10 => ?_) (fun c10 => absurd c10 (by decide))
      refine v_iconst (v := 0) C dX9_areOdds_32 (by decide) ?_
      exact v_ret C dX9_areOdds_33 rfl rfl ⟨Or.inr ⟨rfl, by unfold okOD; omega⟩, rfl⟩
  · refine b_if_eq C 32 dX9_areOdds_4 (by decide) (show (0 : Int32).toInt = 0 by decide) (fun c11 => ?_) (fun c11 => absurd c11 (by decide))
    refine v_iconst (v := 0) C dX9_areOdds_32 (by decide) ?_
    exact v_ret C dX9_areOdds_33 rfl rfl ⟨Or.inr ⟨rfl, by unfold okOD; omega⟩, rfl⟩

set_option maxRecDepth 20000 in
theorem y_odds (l : Launch) (G : Gl) (n : Nat) (ad : Nat → Nat) (E : Nat → va_E) (hn : 98 ≤ n) {im ic md : Nat → Int32} (hW : MCal G ad E im ic md) {rf rto ron rat rbe rtd rm fv : Nat → Int32} (hR : ZMr G E rf rto ron rat rbe rtd rm fv) {TT : Nat → TST} (hS : ZMs G E 5 TT) (hTT : ∀ z, z < 5 → TT z = TTz ic md rf rto ron rat rbe rtd rm fv (im 18).toInt z) (hV : ∀ z, z < 5 → RZv ic rf rto ron rat rbe rtd rm fv z) {od : Nat → Int32} (h97 : E 97 = aI G 40000 od) {k : Nat} (hk : (im 16).toInt = (k : Int)) (hk5 : k ≤ 5) (a : Int32) (b : Int32) : CtI l G yX9_odds cX9_odds 3 .int 6 150 (n) ad E [.ref (ad 68), .int a, .int b] (fun r E' => ODp k TT (YSf md (ic 4).toInt (ic 5).toInt 100) a.toInt b.toInt r.toInt) := by
  refine CtI.of (by decide) (Nat.le_of_ble_eq_true rfl) (fun X A C => ?_)
  refine v_sub (lv' := [(0, .ref (ad 68)), (1, .int a), (2, .int b)]) [0, 1, 2] rfl ?_
  have hP := hW.2.1
  have h68 := hW.2.2.1
  have hcy := cal_y hP
  have h8T : ∀ z, z < 5 → (TT z).1 ≤ 800 := fun z hz => by rw [hTT z hz]; exact (TTz_ok hP (hV z hz)).2
  have hokT : ∀ z, z < 5 → okT 69300000 (TT z) := fun z hz => by rw [hTT z hz]; exact (TTz_ok hP (hV z hz)).1
  refine v_iload_n C 1 dX9_odds_0 rfl rfl ?_
  refine v_iload_n C 2 dX9_odds_1 rfl rfl ?_
  refine v_cSp C dX9_odds_2 lX9_277 mX9_areOdds (y_areOdds l G _ ad _ a b) ⟨by decide, by decide⟩ rfl (Nat.le_of_ble_eq_true rfl) ⟨Nat.zero_le _, Nat.zero_le _⟩ (fun r1 hp2 => ?_)
  rcases hp2 with ⟨rfl, hok⟩ | ⟨rfl, hok⟩
  · refine b_if_ne C 10 dX9_odds_5 (by decide) (show (1 : Int32).toInt = 1 by decide) (fun c3 => ?_) (fun c3 => absurd c3 (by decide))
    refine v_aload_n C 0 dX9_odds_10 rfl rfl ?_
    refine v_iload_n C 1 dX9_odds_11 rfl rfl ?_
    refine v_iload_n C 2 dX9_odds_12 rfl rfl ?_
    refine v_cVv C dX9_odds_13 lX9_280 mX9_findOdds 68 (by omega) h68 (by decide) rfl (y_findOdds l G n ad _ hn hW hR hS hTT hV h97 hk hk5 a b hok) ⟨by decide, by decide⟩ rfl (Nat.le_of_ble_eq_true rfl) ⟨Nat.zero_le _, Nat.zero_le _⟩ (fun E4 hq5 => ?_)
    obtain ⟨im1, od1, L, f1, f2, f3, f4, f5, f6, f7, f8⟩ := hq5
    have e68a := f4.2.2.1
    refine v_aload_n C 0 dX9_odds_16 rfl rfl ?_
    refine v_geti (v := im1 41) C 68 dX9_odds_17 fX9_265 (by omega) e68a rfl rfl ?_
    exact v_ret C dX9_odds_20 rfl rfl (Or.inr ⟨hok, L, _, f7, f2⟩)
  · refine b_if_ne C 10 dX9_odds_5 (by decide) (show (0 : Int32).toInt = 0 by decide) (fun c6 => absurd c6 (by decide)) (fun c6 => ?_)
    refine v_iconst (v := (-1)) C dX9_odds_8 (by decide) ?_
    exact v_ret C dX9_odds_9 rfl rfl (Or.inl ⟨hok, by decide⟩)

set_option maxRecDepth 20000 in
theorem y_odd (l : Launch) (G : Gl) (n : Nat) (ad : Nat → Nat) (E : Nat → va_E) (hn : 98 ≤ n) {im ic md : Nat → Int32} (hW : MCal G ad E im ic md) {rf rto ron rat rbe rtd rm fv : Nat → Int32} (hR : ZMr G E rf rto ron rat rbe rtd rm fv) {TT : Nat → TST} (hS : ZMs G E 5 TT) (hTT : ∀ z, z < 5 → TT z = TTz ic md rf rto ron rat rbe rtd rm fv (im 18).toInt z) (hV : ∀ z, z < 5 → RZv ic rf rto ron rat rbe rtd rm fv z) {od : Nat → Int32} (h97 : E 97 = aI G 40000 od) {k : Nat} (hk : (im 16).toInt = (k : Int)) (hk5 : k ≤ 5) (a : Int32) (b : Int32) (i : Int32) : CtI l G yX9_odd cX9_odd 4 .int 6 150 (n) ad E [.ref (ad 68), .int a, .int b, .int i] (fun r E' => OIp k TT (YSf md (ic 4).toInt (ic 5).toInt 100) a.toInt b.toInt i.toInt r.toInt) := by
  refine CtI.of (by decide) (Nat.le_of_ble_eq_true rfl) (fun X A C => ?_)
  refine v_sub (lv' := [(0, .ref (ad 68)), (1, .int a), (2, .int b), (3, .int i)]) [0, 1, 2, 3] rfl ?_
  have hP := hW.2.1
  have h68 := hW.2.2.1
  have hcy := cal_y hP
  have h8T : ∀ z, z < 5 → (TT z).1 ≤ 800 := fun z hz => by rw [hTT z hz]; exact (TTz_ok hP (hV z hz)).2
  have hokT : ∀ z, z < 5 → okT 69300000 (TT z) := fun z hz => by rw [hTT z hz]; exact (TTz_ok hP (hV z hz)).1
  refine v_iload_n C 1 dX9_odd_0 rfl rfl ?_
  refine v_iload_n C 2 dX9_odd_1 rfl rfl ?_
  refine v_cSp C dX9_odd_2 lX9_277 mX9_areOdds (y_areOdds l G _ ad _ a b) ⟨by decide, by decide⟩ rfl (Nat.le_of_ble_eq_true rfl) ⟨Nat.zero_le _, Nat.zero_le _⟩ (fun r1 hp2 => ?_)
  rcases hp2 with ⟨rfl, hok⟩ | ⟨rfl, hok⟩
  · refine b_if_ne C 10 dX9_odd_5 (by decide) (show (1 : Int32).toInt = 1 by decide) (fun c3 => ?_) (fun c3 => absurd c3 (by decide))
    refine v_aload_n C 0 dX9_odd_10 rfl rfl ?_
    refine v_iload_n C 1 dX9_odd_11 rfl rfl ?_
    refine v_iload_n C 2 dX9_odd_12 rfl rfl ?_
    refine v_cVv C dX9_odd_13 lX9_280 mX9_findOdds 68 (by omega) h68 (by decide) rfl (y_findOdds l G n ad _ hn hW hR hS hTT hV h97 hk hk5 a b hok) ⟨by decide, by decide⟩ rfl (Nat.le_of_ble_eq_true rfl) ⟨Nat.zero_le _, Nat.zero_le _⟩ (fun E4 hq5 => ?_)
    obtain ⟨im1, od1, L, f1, f2, f3, f4, f5, f6, f7, f8⟩ := hq5
    have e68a := f4.2.2.1
    refine v_iload_n C 3 dX9_odd_16 rfl rfl ?_
    refine b_if_lt C 37 dX9_odd_17 (by decide) (rfl : Int32.toInt i = _) (fun c6 => ?_) (fun c6 => ?_)
    · refine v_iconst (v := (-1)) C dX9_odd_37 (by decide) ?_
      exact v_ret C dX9_odd_38 rfl rfl (Or.inr ⟨hok, L, _, f7, Or.inr ⟨by omega, by decide⟩⟩)
    · refine v_iload_n C 3 dX9_odd_20 rfl rfl ?_
      refine v_aload_n C 0 dX9_odd_21 rfl rfl ?_
      refine v_geti (v := im1 41) C 68 dX9_odd_22 fX9_265 (by omega) e68a rfl rfl ?_
      refine b_icmp_ge C 37 dX9_odd_25 (by decide) (rfl : Int32.toInt i = _) f2 (fun c7 => ?_) (fun c7 => ?_)
      · refine v_iconst (v := (-1)) C dX9_odd_37 (by decide) ?_
        exact v_ret C dX9_odd_38 rfl rfl (Or.inr ⟨hok, L, _, f7, Or.inr ⟨by omega, by decide⟩⟩)
      · refine v_aload_n C 0 dX9_odd_28 rfl rfl ?_
        refine v_getr C 68 dX9_odd_29 fX9_113 (by omega) e68a rfl rfl ?_
        refine v_iload_n C 3 dX9_odd_32 rfl rfl ?_
        refine v_ald (v := od1 i.toInt.toNat) C 97 dX9_odd_33 (by omega) f6 (ti_in (rfl : Int32.toInt i = _) (by omega) (by omega)) (by rw [ti_cl (rfl : Int32.toInt i = _), show Int.toNat i.toInt = i.toInt.toNat by omega]) ?_
        refine v_goto C 38 dX9_odd_34 (by decide) ?_
        exact v_ret C dX9_odd_38 rfl rfl (Or.inr ⟨hok, L, _, f7, Or.inl ⟨by omega, by omega, rfl⟩⟩)
  · refine b_if_ne C 10 dX9_odd_5 (by decide) (show (0 : Int32).toInt = 0 by decide) (fun c8 => absurd c8 (by decide)) (fun c8 => ?_)
    refine v_iconst (v := (-1)) C dX9_odd_8 (by decide) ?_
    exact v_ret C dX9_odd_9 rfl rfl (Or.inl ⟨hok, by decide⟩)

