set_option maxRecDepth 20000 in
theorem y_say (l : Launch) (G : Gl) (n : Nat) (ad : Nat → Nat) (E : Nat → va_E) (hn : 98 ≤ n) {im : Nat → Int32} (h68 : E 68 = ob 9 (rX9 ad) im) {sw : Nat → Int32} (h83 : E 83 = aI G 800 sw) {so : Nat → Int32} (h84 : E 84 = aI G 800 so) {c : Nat} {L : List (Int × Int)} (hA : AR c sw so L) (hs : srt L) (hc : c < 800) (m : Int32) (w : Int32) (v : Int32) (hmc : m.toInt = (c : Int)) : CtI l G yX9_say cX9_say 6 .int 0 0 (n) ad E [.ref (ad 68), .int m, .int w, .int v] (fun r E' => ∃ (c1 : Nat) (sw1 so1 : Nat → Int32), r.toInt = (c1 : Int) ∧ E' 83 = aI G 800 sw1 ∧ E' 84 = aI G 800 so1 ∧ AR c1 sw1 so1 (insL w.toInt v.toInt L) ∧ c1 ≤ c + 1 ∧ ∀ j, j ≠ 83 → j ≠ 84 → E' j = E j) := by
  refine CtI.of (by decide) (Nat.le_of_ble_eq_true rfl) (fun X A C => ?_)
  refine v_sub (lv' := [(0, .ref (ad 68)), (1, .int m), (2, .int w), (3, .int v)]) [0, 1, 2, 3] rfl ?_
  refine v_iload_n C 1 dX9_say_0 rfl rfl ?_
  refine v_istore (lv' := [(0, .ref (ad 68)), (1, .int m), (2, .int w), (3, .int v), (4, .int m)]) C [1, 2, 3, 4, 0] dX9_say_1 (by decide) rfl ?_
  have LP1 : ∀ (t : Nat) (a : Nat) (y2 : Int32) (E3 : Nat → va_E), (y2.toInt = (a : Int)) → (∀ j, E3 j = E j) → (a ≤ c) → (∀ i, a ≤ i → i < c → w.toInt < (sw i).toInt) → (a : Int) < (t : Int) → V X G A 6 (QI X G A (n) ad (fun r E' => ∃ (c1 : Nat) (sw1 so1 : Nat → Int32), r.toInt = (c1 : Int) ∧ E' 83 = aI G 800 sw1 ∧ E' 84 = aI G 800 so1 ∧ AR c1 sw1 so1 (insL w.toInt v.toInt L) ∧ c1 ≤ c + 1 ∧ ∀ j, j ≠ 83 → j ≠ 84 → E' j = E j)) (n) ad 0 0 E3 3 [(0, .ref (ad 68)), (1, .int m), (2, .int w), (3, .int v), (4, .int y2)] [] := by
    intro t7
    induction t7 with
    | zero => intro a y2 E3 hy2 hfr4 hq5 hq6 hm9; exfalso; omega
    | succ t7 ih8 =>
      intro a y2 E3 hy2 hfr4 hq5 hq6 hm9
      have hE3_68 := (hfr4 68 ).trans h68
      have hE3_83 := (hfr4 83 ).trans h83
      have hE3_84 := (hfr4 84 ).trans h84
      refine v_iload C 4 dX9_say_3 rfl ?_
      refine b_if_le C 27 dX9_say_5 (by decide) hy2 (fun c10 => ?_) (fun c10 => ?_)
      · refine v_iload C 4 dX9_say_27 rfl ?_
        refine b_if_le C 57 dX9_say_29 (by decide) hy2 (fun c11 => ?_) (fun c11 => ?_)
        · refine v_iload_n C 1 dX9_say_57 rfl rfl ?_
          refine v_istore (lv' := [(0, .ref (ad 68)), (1, .int m), (2, .int w), (3, .int v), (4, .int y2), (5, .int m)]) C [1, 2, 3, 4, 5, 0] dX9_say_58 (by decide) rfl ?_
          have LP12 : ∀ (t : Nat) (i : Nat) (y13 : Int32) (E14 : Nat → va_E) (sw2 : Nat → Int32) (so2 : Nat → Int32), (y13.toInt = (i : Int)) → (E14 83 = aI G 800 sw2) → (E14 84 = aI G 800 so2) → (∀ j, j ≠ 83 → j ≠ 84 → E14 j = E3 j) → (a ≤ i) → (i ≤ c) → (∀ q, q ≤ i → sw2 q = sw q ∧ so2 q = so q) → (∀ q, i < q → q ≤ c → sw2 q = sw (q - 1) ∧ so2 q = so (q - 1)) → (i : Int) < (t : Int) → V X G A 6 (QI X G A (n) ad (fun r E' => ∃ (c1 : Nat) (sw1 so1 : Nat → Int32), r.toInt = (c1 : Int) ∧ E' 83 = aI G 800 sw1 ∧ E' 84 = aI G 800 so1 ∧ AR c1 sw1 so1 (insL w.toInt v.toInt L) ∧ c1 ≤ c + 1 ∧ ∀ j, j ≠ 83 → j ≠ 84 → E' j = E j)) (n) ad 0 0 E14 60 [(0, .ref (ad 68)), (1, .int m), (2, .int w), (3, .int v), (4, .int y2), (5, .int y13)] [] := by
            intro t20
            induction t20 with
            | zero => intro i y13 E14 sw2 so2 hy13 hE14_83 hE14_84 hfr15 hq16 hq17 hq18 hq19 hm22; exfalso; omega
            | succ t20 ih21 =>
              intro i y13 E14 sw2 so2 hy13 hE14_83 hE14_84 hfr15 hq16 hq17 hq18 hq19 hm22
              have hE14_68 := (hfr15 68 (by decide) (by decide)).trans hE3_68
              refine v_iload C 5 dX9_say_60 rfl ?_
              refine v_iload C 4 dX9_say_62 rfl ?_
              refine b_icmp_le C 105 dX9_say_64 (by decide) hy13 hy2 (fun c23 => ?_) (fun c23 => ?_)
              · refine v_aload_n C 0 dX9_say_105 rfl rfl ?_
                refine v_getr C 68 dX9_say_106 fX9_70 (by omega) hE14_68 rfl rfl ?_
                refine v_iload C 4 dX9_say_109 rfl ?_
                refine v_iload_n C 2 dX9_say_111 rfl rfl ?_
                refine v_ast C 83 dX9_say_112 (by omega) hE14_83 (ti_in hy2 (by omega) (by omega)) (fun E24 hE24_83 oE24 => ?_)
                rw [ti_cl hy2, show Int.toNat (a : Int) = a by omega] at hE24_83
                have hE24_68 := (oE24 68 (by decide)).trans hE14_68
                have hE24_84 := (oE24 84 (by decide)).trans hE14_84
                refine v_aload_n C 0 dX9_say_113 rfl rfl ?_
                refine v_getr C 68 dX9_say_114 fX9_73 (by omega) hE24_68 rfl rfl ?_
                refine v_iload C 4 dX9_say_117 rfl ?_
                refine v_iload_n C 3 dX9_say_119 rfl rfl ?_
                refine v_ast C 84 dX9_say_120 (by omega) hE24_84 (ti_in hy2 (by omega) (by omega)) (fun E25 hE25_84 oE25 => ?_)
                rw [ti_cl hy2, show Int.toNat (a : Int) = a by omega] at hE25_84
                have hE25_68 := (oE25 68 (by decide)).trans hE24_68
                have hE25_83 := (oE25 83 (by decide)).trans hE24_83
                refine v_iload_n C 1 dX9_say_121 rfl rfl ?_
                refine v_iconst (v := 1) C dX9_say_122 (by decide) ?_
                refine v_iadd C dX9_say_123 ?_
                refine v_top (fun x26 ex26 => ?_)
                have hx26 : x26.toInt = ((c : Int) + 1) := by rw [ex26]; exact ti_add hmc (show (1 : Int32).toInt = 1 by decide) (by omega) (by omega)
                exact v_ret C dX9_say_124 rfl rfl ⟨c + 1, _, _, (by rw [hx26]; omega), hE25_83, hE25_84, AR_new hA (k := a) (by omega) (AR_low hA hs (by omega) (by first | (left; omega) | (right; omega))) (fun hk => hq6 a (Nat.le_refl a) hk) (fun q hq => ⟨(upd_ne (by omega)).trans (hq18 q (by omega)).1, (upd_ne (by omega)).trans (hq18 q (by omega)).2⟩) ⟨by rw [upd_same], by rw [upd_same]⟩ (fun q h1 h2 => ⟨(upd_ne (by omega)).trans (hq19 q (by omega) h2).1, (upd_ne (by omega)).trans (hq19 q (by omega) h2).2⟩), by omega, fun j g3 g4 => ((oE25 j g4).trans ((oE24 j g3).trans ((hfr15 j g3 g4).trans (hfr4 j ))))⟩
              · refine v_aload_n C 0 dX9_say_67 rfl rfl ?_
                refine v_getr C 68 dX9_say_68 fX9_70 (by omega) hE14_68 rfl rfl ?_
                refine v_iload C 5 dX9_say_71 rfl ?_
                refine v_aload_n C 0 dX9_say_73 rfl rfl ?_
                refine v_getr C 68 dX9_say_74 fX9_70 (by omega) hE14_68 rfl rfl ?_
                refine v_iload C 5 dX9_say_77 rfl ?_
                refine v_iconst (v := 1) C dX9_say_79 (by decide) ?_
                refine v_isub C dX9_say_80 ?_
                refine v_top (fun x27 ex27 => ?_)
                have hx27 : x27.toInt = ((i : Int) - 1) := by rw [ex27]; exact ti_sub hy13 (show (1 : Int32).toInt = 1 by decide) (by omega) (by omega)
                refine v_ald (v := sw2 (i - 1)) C 83 dX9_say_81 (by omega) hE14_83 (ti_in hx27 (by omega) (by omega)) (by rw [ti_cl hx27, show Int.toNat ((i : Int) - 1) = i - 1 by omega]) ?_
                refine v_ast C 83 dX9_say_82 (by omega) hE14_83 (ti_in hy13 (by omega) (by omega)) (fun E28 hE28_83 oE28 => ?_)
                rw [ti_cl hy13, show Int.toNat (i : Int) = i by omega] at hE28_83
                have hE28_68 := (oE28 68 (by decide)).trans hE14_68
                have hE28_84 := (oE28 84 (by decide)).trans hE14_84
                refine v_aload_n C 0 dX9_say_83 rfl rfl ?_
                refine v_getr C 68 dX9_say_84 fX9_73 (by omega) hE28_68 rfl rfl ?_
                refine v_iload C 5 dX9_say_87 rfl ?_
                refine v_aload_n C 0 dX9_say_89 rfl rfl ?_
                refine v_getr C 68 dX9_say_90 fX9_73 (by omega) hE28_68 rfl rfl ?_
                refine v_iload C 5 dX9_say_93 rfl ?_
                refine v_iconst (v := 1) C dX9_say_95 (by decide) ?_
                refine v_isub C dX9_say_96 ?_
                refine v_top (fun x29 ex29 => ?_)
                have hx29 : x29.toInt = ((i : Int) - 1) := by rw [ex29]; exact ti_sub hy13 (show (1 : Int32).toInt = 1 by decide) (by omega) (by omega)
                refine v_ald (v := so2 (i - 1)) C 84 dX9_say_97 (by omega) hE28_84 (ti_in hx29 (by omega) (by omega)) (by rw [ti_cl hx29, show Int.toNat ((i : Int) - 1) = i - 1 by omega]) ?_
                refine v_ast C 84 dX9_say_98 (by omega) hE28_84 (ti_in hy13 (by omega) (by omega)) (fun E30 hE30_84 oE30 => ?_)
                rw [ti_cl hy13, show Int.toNat (i : Int) = i by omega] at hE30_84
                have hE30_68 := (oE30 68 (by decide)).trans hE28_68
                have hE30_83 := (oE30 83 (by decide)).trans hE28_83
                obtain ⟨x31, ex31⟩ : ∃ y : Int32, y = y13 + (-1) := ⟨_, rfl⟩
                have hx31 : x31.toInt = ((i : Int) + (-1)) := by rw [ex31]; exact ti_add hy13 (show ((-1) : Int32).toInt = (-1) by decide) (by omega) (by omega)
                refine v_iinc (v := x31) (lv' := [(0, .ref (ad 68)), (1, .int m), (2, .int w), (3, .int v), (4, .int y2), (5, .int x31)]) C 5 [1, 2, 3, 4, 5, 0] dX9_say_99 rfl (ex31.symm) (by decide) rfl ?_
                refine v_goto C 60 dX9_say_102 (by decide) ?_
                exact ih21 (i - 1) x31 E30 (upd sw2 i (sw2 (i - 1))) (upd so2 i (so2 (i - 1))) (show Int32.toInt x31 = ((i - 1 : Nat) : Int) by have := hx31; omega) hE30_83 hE30_84 (fun j g0 g1 => ((oE30 j g1).trans ((oE28 j g0).trans (hfr15 j g0 g1)))) (by omega) (by omega) (fun q hq => ⟨(upd_ne (by omega)).trans (hq18 q (by omega)).1, (upd_ne (by omega)).trans (hq18 q (by omega)).2⟩) (fun q h1 h2 => by by_cases e : q = i; (rw [e, upd_same, upd_same]; exact hq18 (i - 1) (by omega)); (rw [upd_ne e, upd_ne e]; exact hq19 q (by omega) h2)) (by omega)
          exact LP12 100000 c m E3 sw so (show Int32.toInt m = ((c : Nat) : Int) by have := hmc; omega) hE3_83 hE3_84 (fun j _ _ => rfl) (by omega) (by omega) (fun q _ => ⟨rfl, rfl⟩) (fun q h1 h2 => absurd h2 (by omega)) (by omega)
        · refine v_aload_n C 0 dX9_say_32 rfl rfl ?_
          refine v_getr C 68 dX9_say_33 fX9_70 (by omega) hE3_68 rfl rfl ?_
          refine v_iload C 4 dX9_say_36 rfl ?_
          refine v_iconst (v := 1) C dX9_say_38 (by decide) ?_
          refine v_isub C dX9_say_39 ?_
          refine v_top (fun x32 ex32 => ?_)
          have hx32 : x32.toInt = ((a : Int) - 1) := by rw [ex32]; exact ti_sub hy2 (show (1 : Int32).toInt = 1 by decide) (by omega) (by omega)
          refine v_ald (v := sw (a - 1)) C 83 dX9_say_40 (by omega) hE3_83 (ti_in hx32 (by omega) (by omega)) (by rw [ti_cl hx32, show Int.toNat ((a : Int) - 1) = a - 1 by omega]) ?_
          refine v_iload_n C 2 dX9_say_41 rfl rfl ?_
          refine b_icmp_ne C 57 dX9_say_42 (by decide) (rfl : Int32.toInt (sw (a - 1)) = _) (rfl : Int32.toInt w = _) (fun c33 => ?_) (fun c33 => ?_)
          · refine v_iload_n C 1 dX9_say_57 rfl rfl ?_
            refine v_istore (lv' := [(0, .ref (ad 68)), (1, .int m), (2, .int w), (3, .int v), (4, .int y2), (5, .int m)]) C [1, 2, 3, 4, 5, 0] dX9_say_58 (by decide) rfl ?_
            have LP34 : ∀ (t : Nat) (i : Nat) (y35 : Int32) (E36 : Nat → va_E) (sw2 : Nat → Int32) (so2 : Nat → Int32), (y35.toInt = (i : Int)) → (E36 83 = aI G 800 sw2) → (E36 84 = aI G 800 so2) → (∀ j, j ≠ 83 → j ≠ 84 → E36 j = E3 j) → (a ≤ i) → (i ≤ c) → (∀ q, q ≤ i → sw2 q = sw q ∧ so2 q = so q) → (∀ q, i < q → q ≤ c → sw2 q = sw (q - 1) ∧ so2 q = so (q - 1)) → (i : Int) < (t : Int) → V X G A 6 (QI X G A (n) ad (fun r E' => ∃ (c1 : Nat) (sw1 so1 : Nat → Int32), r.toInt = (c1 : Int) ∧ E' 83 = aI G 800 sw1 ∧ E' 84 = aI G 800 so1 ∧ AR c1 sw1 so1 (insL w.toInt v.toInt L) ∧ c1 ≤ c + 1 ∧ ∀ j, j ≠ 83 → j ≠ 84 → E' j = E j)) (n) ad 0 0 E36 60 [(0, .ref (ad 68)), (1, .int m), (2, .int w), (3, .int v), (4, .int y2), (5, .int y35)] [] := by
              intro t42
              induction t42 with
              | zero => intro i y35 E36 sw2 so2 hy35 hE36_83 hE36_84 hfr37 hq38 hq39 hq40 hq41 hm44; exfalso; omega
              | succ t42 ih43 =>
                intro i y35 E36 sw2 so2 hy35 hE36_83 hE36_84 hfr37 hq38 hq39 hq40 hq41 hm44
                have hE36_68 := (hfr37 68 (by decide) (by decide)).trans hE3_68
                refine v_iload C 5 dX9_say_60 rfl ?_
                refine v_iload C 4 dX9_say_62 rfl ?_
                refine b_icmp_le C 105 dX9_say_64 (by decide) hy35 hy2 (fun c45 => ?_) (fun c45 => ?_)
                · refine v_aload_n C 0 dX9_say_105 rfl rfl ?_
                  refine v_getr C 68 dX9_say_106 fX9_70 (by omega) hE36_68 rfl rfl ?_
                  refine v_iload C 4 dX9_say_109 rfl ?_
                  refine v_iload_n C 2 dX9_say_111 rfl rfl ?_
                  refine v_ast C 83 dX9_say_112 (by omega) hE36_83 (ti_in hy2 (by omega) (by omega)) (fun E46 hE46_83 oE46 => ?_)
                  rw [ti_cl hy2, show Int.toNat (a : Int) = a by omega] at hE46_83
                  have hE46_68 := (oE46 68 (by decide)).trans hE36_68
                  have hE46_84 := (oE46 84 (by decide)).trans hE36_84
                  refine v_aload_n C 0 dX9_say_113 rfl rfl ?_
                  refine v_getr C 68 dX9_say_114 fX9_73 (by omega) hE46_68 rfl rfl ?_
                  refine v_iload C 4 dX9_say_117 rfl ?_
                  refine v_iload_n C 3 dX9_say_119 rfl rfl ?_
                  refine v_ast C 84 dX9_say_120 (by omega) hE46_84 (ti_in hy2 (by omega) (by omega)) (fun E47 hE47_84 oE47 => ?_)
                  rw [ti_cl hy2, show Int.toNat (a : Int) = a by omega] at hE47_84
                  have hE47_68 := (oE47 68 (by decide)).trans hE46_68
                  have hE47_83 := (oE47 83 (by decide)).trans hE46_83
                  refine v_iload_n C 1 dX9_say_121 rfl rfl ?_
                  refine v_iconst (v := 1) C dX9_say_122 (by decide) ?_
                  refine v_iadd C dX9_say_123 ?_
                  refine v_top (fun x48 ex48 => ?_)
                  have hx48 : x48.toInt = ((c : Int) + 1) := by rw [ex48]; exact ti_add hmc (show (1 : Int32).toInt = 1 by decide) (by omega) (by omega)
                  exact v_ret C dX9_say_124 rfl rfl ⟨c + 1, _, _, (by rw [hx48]; omega), hE47_83, hE47_84, AR_new hA (k := a) (by omega) (AR_low hA hs (by omega) (by first | (left; omega) | (right; omega))) (fun hk => hq6 a (Nat.le_refl a) hk) (fun q hq => ⟨(upd_ne (by omega)).trans (hq40 q (by omega)).1, (upd_ne (by omega)).trans (hq40 q (by omega)).2⟩) ⟨by rw [upd_same], by rw [upd_same]⟩ (fun q h1 h2 => ⟨(upd_ne (by omega)).trans (hq41 q (by omega) h2).1, (upd_ne (by omega)).trans (hq41 q (by omega) h2).2⟩), by omega, fun j g3 g4 => ((oE47 j g4).trans ((oE46 j g3).trans ((hfr37 j g3 g4).trans (hfr4 j ))))⟩
                · refine v_aload_n C 0 dX9_say_67 rfl rfl ?_
                  refine v_getr C 68 dX9_say_68 fX9_70 (by omega) hE36_68 rfl rfl ?_
                  refine v_iload C 5 dX9_say_71 rfl ?_
                  refine v_aload_n C 0 dX9_say_73 rfl rfl ?_
                  refine v_getr C 68 dX9_say_74 fX9_70 (by omega) hE36_68 rfl rfl ?_
                  refine v_iload C 5 dX9_say_77 rfl ?_
                  refine v_iconst (v := 1) C dX9_say_79 (by decide) ?_
                  refine v_isub C dX9_say_80 ?_
                  refine v_top (fun x49 ex49 => ?_)
                  have hx49 : x49.toInt = ((i : Int) - 1) := by rw [ex49]; exact ti_sub hy35 (show (1 : Int32).toInt = 1 by decide) (by omega) (by omega)
                  refine v_ald (v := sw2 (i - 1)) C 83 dX9_say_81 (by omega) hE36_83 (ti_in hx49 (by omega) (by omega)) (by rw [ti_cl hx49, show Int.toNat ((i : Int) - 1) = i - 1 by omega]) ?_
                  refine v_ast C 83 dX9_say_82 (by omega) hE36_83 (ti_in hy35 (by omega) (by omega)) (fun E50 hE50_83 oE50 => ?_)
                  rw [ti_cl hy35, show Int.toNat (i : Int) = i by omega] at hE50_83
                  have hE50_68 := (oE50 68 (by decide)).trans hE36_68
                  have hE50_84 := (oE50 84 (by decide)).trans hE36_84
                  refine v_aload_n C 0 dX9_say_83 rfl rfl ?_
                  refine v_getr C 68 dX9_say_84 fX9_73 (by omega) hE50_68 rfl rfl ?_
                  refine v_iload C 5 dX9_say_87 rfl ?_
                  refine v_aload_n C 0 dX9_say_89 rfl rfl ?_
                  refine v_getr C 68 dX9_say_90 fX9_73 (by omega) hE50_68 rfl rfl ?_
                  refine v_iload C 5 dX9_say_93 rfl ?_
                  refine v_iconst (v := 1) C dX9_say_95 (by decide) ?_
                  refine v_isub C dX9_say_96 ?_
                  refine v_top (fun x51 ex51 => ?_)
                  have hx51 : x51.toInt = ((i : Int) - 1) := by rw [ex51]; exact ti_sub hy35 (show (1 : Int32).toInt = 1 by decide) (by omega) (by omega)
                  refine v_ald (v := so2 (i - 1)) C 84 dX9_say_97 (by omega) hE50_84 (ti_in hx51 (by omega) (by omega)) (by rw [ti_cl hx51, show Int.toNat ((i : Int) - 1) = i - 1 by omega]) ?_
                  refine v_ast C 84 dX9_say_98 (by omega) hE50_84 (ti_in hy35 (by omega) (by omega)) (fun E52 hE52_84 oE52 => ?_)
                  rw [ti_cl hy35, show Int.toNat (i : Int) = i by omega] at hE52_84
                  have hE52_68 := (oE52 68 (by decide)).trans hE50_68
                  have hE52_83 := (oE52 83 (by decide)).trans hE50_83
                  obtain ⟨x53, ex53⟩ : ∃ y : Int32, y = y35 + (-1) := ⟨_, rfl⟩
                  have hx53 : x53.toInt = ((i : Int) + (-1)) := by rw [ex53]; exact ti_add hy35 (show ((-1) : Int32).toInt = (-1) by decide) (by omega) (by omega)
                  refine v_iinc (v := x53) (lv' := [(0, .ref (ad 68)), (1, .int m), (2, .int w), (3, .int v), (4, .int y2), (5, .int x53)]) C 5 [1, 2, 3, 4, 5, 0] dX9_say_99 rfl (ex53.symm) (by decide) rfl ?_
                  refine v_goto C 60 dX9_say_102 (by decide) ?_
                  exact ih43 (i - 1) x53 E52 (upd sw2 i (sw2 (i - 1))) (upd so2 i (so2 (i - 1))) (show Int32.toInt x53 = ((i - 1 : Nat) : Int) by have := hx53; omega) hE52_83 hE52_84 (fun j g0 g1 => ((oE52 j g1).trans ((oE50 j g0).trans (hfr37 j g0 g1)))) (by omega) (by omega) (fun q hq => ⟨(upd_ne (by omega)).trans (hq40 q (by omega)).1, (upd_ne (by omega)).trans (hq40 q (by omega)).2⟩) (fun q h1 h2 => by by_cases e : q = i; (rw [e, upd_same, upd_same]; exact hq40 (i - 1) (by omega)); (rw [upd_ne e, upd_ne e]; exact hq41 q (by omega) h2)) (by omega)
            exact LP34 100000 c m E3 sw so (show Int32.toInt m = ((c : Nat) : Int) by have := hmc; omega) hE3_83 hE3_84 (fun j _ _ => rfl) (by omega) (by omega) (fun q _ => ⟨rfl, rfl⟩) (fun q h1 h2 => absurd h2 (by omega)) (by omega)
          · refine v_aload_n C 0 dX9_say_45 rfl rfl ?_
            refine v_getr C 68 dX9_say_46 fX9_73 (by omega) hE3_68 rfl rfl ?_
            refine v_iload C 4 dX9_say_49 rfl ?_
            refine v_iconst (v := 1) C dX9_say_51 (by decide) ?_
            refine v_isub C dX9_say_52 ?_
            refine v_top (fun x54 ex54 => ?_)
            have hx54 : x54.toInt = ((a : Int) - 1) := by rw [ex54]; exact ti_sub hy2 (show (1 : Int32).toInt = 1 by decide) (by omega) (by omega)
            refine v_iload_n C 3 dX9_say_53 rfl rfl ?_
            refine v_ast C 84 dX9_say_54 (by omega) hE3_84 (ti_in hx54 (by omega) (by omega)) (fun E55 hE55_84 oE55 => ?_)
            rw [ti_cl hx54, show Int.toNat ((a : Int) - 1) = a - 1 by omega] at hE55_84
            have hE55_68 := (oE55 68 (by decide)).trans hE3_68
            have hE55_83 := (oE55 83 (by decide)).trans hE3_83
            refine v_iload_n C 1 dX9_say_55 rfl rfl ?_
            exact v_ret C dX9_say_56 rfl rfl ⟨c, _, _, hmc, hE55_83, hE55_84, AR_same hA (k := a - 1) (by omega) (fun i hi => by have := AR_lt hA hs (i := i) (j := a - 1) hi (by omega); omega) (by omega) (fun i _ hi => ⟨rfl, upd_ne hi⟩) ⟨by omega, by rw [upd_same]⟩, by omega, fun j g3 g4 => ((oE55 j g4).trans (hfr4 j ))⟩
      · refine v_aload_n C 0 dX9_say_8 rfl rfl ?_
        refine v_getr C 68 dX9_say_9 fX9_70 (by omega) hE3_68 rfl rfl ?_
        refine v_iload C 4 dX9_say_12 rfl ?_
        refine v_iconst (v := 1) C dX9_say_14 (by decide) ?_
        refine v_isub C dX9_say_15 ?_
        refine v_top (fun x56 ex56 => ?_)
        have hx56 : x56.toInt = ((a : Int) - 1) := by rw [ex56]; exact ti_sub hy2 (show (1 : Int32).toInt = 1 by decide) (by omega) (by omega)
        refine v_ald (v := sw (a - 1)) C 83 dX9_say_16 (by omega) hE3_83 (ti_in hx56 (by omega) (by omega)) (by rw [ti_cl hx56, show Int.toNat ((a : Int) - 1) = a - 1 by omega]) ?_
        refine v_iload_n C 2 dX9_say_17 rfl rfl ?_
        refine b_icmp_le C 27 dX9_say_18 (by decide) (rfl : Int32.toInt (sw (a - 1)) = _) (rfl : Int32.toInt w = _) (fun c57 => ?_) (fun c57 => ?_)
        · refine v_iload C 4 dX9_say_27 rfl ?_
          refine b_if_le C 57 dX9_say_29 (by decide) hy2 (fun c58 => ?_) (fun c58 => ?_)
          · refine v_iload_n C 1 dX9_say_57 rfl rfl ?_
            refine v_istore (lv' := [(0, .ref (ad 68)), (1, .int m), (2, .int w), (3, .int v), (4, .int y2), (5, .int m)]) C [1, 2, 3, 4, 5, 0] dX9_say_58 (by decide) rfl ?_
            have LP59 : ∀ (t : Nat) (i : Nat) (y60 : Int32) (E61 : Nat → va_E) (sw2 : Nat → Int32) (so2 : Nat → Int32), (y60.toInt = (i : Int)) → (E61 83 = aI G 800 sw2) → (E61 84 = aI G 800 so2) → (∀ j, j ≠ 83 → j ≠ 84 → E61 j = E3 j) → (a ≤ i) → (i ≤ c) → (∀ q, q ≤ i → sw2 q = sw q ∧ so2 q = so q) → (∀ q, i < q → q ≤ c → sw2 q = sw (q - 1) ∧ so2 q = so (q - 1)) → (i : Int) < (t : Int) → V X G A 6 (QI X G A (n) ad (fun r E' => ∃ (c1 : Nat) (sw1 so1 : Nat → Int32), r.toInt = (c1 : Int) ∧ E' 83 = aI G 800 sw1 ∧ E' 84 = aI G 800 so1 ∧ AR c1 sw1 so1 (insL w.toInt v.toInt L) ∧ c1 ≤ c + 1 ∧ ∀ j, j ≠ 83 → j ≠ 84 → E' j = E j)) (n) ad 0 0 E61 60 [(0, .ref (ad 68)), (1, .int m), (2, .int w), (3, .int v), (4, .int y2), (5, .int y60)] [] := by
              intro t67
              induction t67 with
              | zero => intro i y60 E61 sw2 so2 hy60 hE61_83 hE61_84 hfr62 hq63 hq64 hq65 hq66 hm69; exfalso; omega
              | succ t67 ih68 =>
                intro i y60 E61 sw2 so2 hy60 hE61_83 hE61_84 hfr62 hq63 hq64 hq65 hq66 hm69
                have hE61_68 := (hfr62 68 (by decide) (by decide)).trans hE3_68
                refine v_iload C 5 dX9_say_60 rfl ?_
                refine v_iload C 4 dX9_say_62 rfl ?_
                refine b_icmp_le C 105 dX9_say_64 (by decide) hy60 hy2 (fun c70 => ?_) (fun c70 => ?_)
                · refine v_aload_n C 0 dX9_say_105 rfl rfl ?_
                  refine v_getr C 68 dX9_say_106 fX9_70 (by omega) hE61_68 rfl rfl ?_
                  refine v_iload C 4 dX9_say_109 rfl ?_
                  refine v_iload_n C 2 dX9_say_111 rfl rfl ?_
                  refine v_ast C 83 dX9_say_112 (by omega) hE61_83 (ti_in hy2 (by omega) (by omega)) (fun E71 hE71_83 oE71 => ?_)
                  rw [ti_cl hy2, show Int.toNat (a : Int) = a by omega] at hE71_83
                  have hE71_68 := (oE71 68 (by decide)).trans hE61_68
                  have hE71_84 := (oE71 84 (by decide)).trans hE61_84
                  refine v_aload_n C 0 dX9_say_113 rfl rfl ?_
                  refine v_getr C 68 dX9_say_114 fX9_73 (by omega) hE71_68 rfl rfl ?_
                  refine v_iload C 4 dX9_say_117 rfl ?_
                  refine v_iload_n C 3 dX9_say_119 rfl rfl ?_
                  refine v_ast C 84 dX9_say_120 (by omega) hE71_84 (ti_in hy2 (by omega) (by omega)) (fun E72 hE72_84 oE72 => ?_)
                  rw [ti_cl hy2, show Int.toNat (a : Int) = a by omega] at hE72_84
                  have hE72_68 := (oE72 68 (by decide)).trans hE71_68
                  have hE72_83 := (oE72 83 (by decide)).trans hE71_83
                  refine v_iload_n C 1 dX9_say_121 rfl rfl ?_
                  refine v_iconst (v := 1) C dX9_say_122 (by decide) ?_
                  refine v_iadd C dX9_say_123 ?_
                  refine v_top (fun x73 ex73 => ?_)
                  have hx73 : x73.toInt = ((c : Int) + 1) := by rw [ex73]; exact ti_add hmc (show (1 : Int32).toInt = 1 by decide) (by omega) (by omega)
                  exact v_ret C dX9_say_124 rfl rfl ⟨c + 1, _, _, (by rw [hx73]; omega), hE72_83, hE72_84, AR_new hA (k := a) (by omega) (AR_low hA hs (by omega) (by first | (left; omega) | (right; omega))) (fun hk => hq6 a (Nat.le_refl a) hk) (fun q hq => ⟨(upd_ne (by omega)).trans (hq65 q (by omega)).1, (upd_ne (by omega)).trans (hq65 q (by omega)).2⟩) ⟨by rw [upd_same], by rw [upd_same]⟩ (fun q h1 h2 => ⟨(upd_ne (by omega)).trans (hq66 q (by omega) h2).1, (upd_ne (by omega)).trans (hq66 q (by omega) h2).2⟩), by omega, fun j g3 g4 => ((oE72 j g4).trans ((oE71 j g3).trans ((hfr62 j g3 g4).trans (hfr4 j ))))⟩
                · refine v_aload_n C 0 dX9_say_67 rfl rfl ?_
                  refine v_getr C 68 dX9_say_68 fX9_70 (by omega) hE61_68 rfl rfl ?_
                  refine v_iload C 5 dX9_say_71 rfl ?_
                  refine v_aload_n C 0 dX9_say_73 rfl rfl ?_
                  refine v_getr C 68 dX9_say_74 fX9_70 (by omega) hE61_68 rfl rfl ?_
                  refine v_iload C 5 dX9_say_77 rfl ?_
                  refine v_iconst (v := 1) C dX9_say_79 (by decide) ?_
                  refine v_isub C dX9_say_80 ?_
                  refine v_top (fun x74 ex74 => ?_)
                  have hx74 : x74.toInt = ((i : Int) - 1) := by rw [ex74]; exact ti_sub hy60 (show (1 : Int32).toInt = 1 by decide) (by omega) (by omega)
                  refine v_ald (v := sw2 (i - 1)) C 83 dX9_say_81 (by omega) hE61_83 (ti_in hx74 (by omega) (by omega)) (by rw [ti_cl hx74, show Int.toNat ((i : Int) - 1) = i - 1 by omega]) ?_
                  refine v_ast C 83 dX9_say_82 (by omega) hE61_83 (ti_in hy60 (by omega) (by omega)) (fun E75 hE75_83 oE75 => ?_)
                  rw [ti_cl hy60, show Int.toNat (i : Int) = i by omega] at hE75_83
                  have hE75_68 := (oE75 68 (by decide)).trans hE61_68
                  have hE75_84 := (oE75 84 (by decide)).trans hE61_84
                  refine v_aload_n C 0 dX9_say_83 rfl rfl ?_
                  refine v_getr C 68 dX9_say_84 fX9_73 (by omega) hE75_68 rfl rfl ?_
                  refine v_iload C 5 dX9_say_87 rfl ?_
                  refine v_aload_n C 0 dX9_say_89 rfl rfl ?_
                  refine v_getr C 68 dX9_say_90 fX9_73 (by omega) hE75_68 rfl rfl ?_
                  refine v_iload C 5 dX9_say_93 rfl ?_
                  refine v_iconst (v := 1) C dX9_say_95 (by decide) ?_
                  refine v_isub C dX9_say_96 ?_
                  refine v_top (fun x76 ex76 => ?_)
                  have hx76 : x76.toInt = ((i : Int) - 1) := by rw [ex76]; exact ti_sub hy60 (show (1 : Int32).toInt = 1 by decide) (by omega) (by omega)
                  refine v_ald (v := so2 (i - 1)) C 84 dX9_say_97 (by omega) hE75_84 (ti_in hx76 (by omega) (by omega)) (by rw [ti_cl hx76, show Int.toNat ((i : Int) - 1) = i - 1 by omega]) ?_
                  refine v_ast C 84 dX9_say_98 (by omega) hE75_84 (ti_in hy60 (by omega) (by omega)) (fun E77 hE77_84 oE77 => ?_)
                  rw [ti_cl hy60, show Int.toNat (i : Int) = i by omega] at hE77_84
                  have hE77_68 := (oE77 68 (by decide)).trans hE75_68
                  have hE77_83 := (oE77 83 (by decide)).trans hE75_83
                  obtain ⟨x78, ex78⟩ : ∃ y : Int32, y = y60 + (-1) := ⟨_, rfl⟩
                  have hx78 : x78.toInt = ((i : Int) + (-1)) := by rw [ex78]; exact ti_add hy60 (show ((-1) : Int32).toInt = (-1) by decide) (by omega) (by omega)
                  refine v_iinc (v := x78) (lv' := [(0, .ref (ad 68)), (1, .int m), (2, .int w), (3, .int v), (4, .int y2), (5, .int x78)]) C 5 [1, 2, 3, 4, 5, 0] dX9_say_99 rfl (ex78.symm) (by decide) rfl ?_
                  refine v_goto C 60 dX9_say_102 (by decide) ?_
                  exact ih68 (i - 1) x78 E77 (upd sw2 i (sw2 (i - 1))) (upd so2 i (so2 (i - 1))) (show Int32.toInt x78 = ((i - 1 : Nat) : Int) by have := hx78; omega) hE77_83 hE77_84 (fun j g0 g1 => ((oE77 j g1).trans ((oE75 j g0).trans (hfr62 j g0 g1)))) (by omega) (by omega) (fun q hq => ⟨(upd_ne (by omega)).trans (hq65 q (by omega)).1, (upd_ne (by omega)).trans (hq65 q (by omega)).2⟩) (fun q h1 h2 => by by_cases e : q = i; (rw [e, upd_same, upd_same]; exact hq65 (i - 1) (by omega)); (rw [upd_ne e, upd_ne e]; exact hq66 q (by omega) h2)) (by omega)
            exact LP59 100000 c m E3 sw so (show Int32.toInt m = ((c : Nat) : Int) by have := hmc; omega) hE3_83 hE3_84 (fun j _ _ => rfl) (by omega) (by omega) (fun q _ => ⟨rfl, rfl⟩) (fun q h1 h2 => absurd h2 (by omega)) (by omega)
          · refine v_aload_n C 0 dX9_say_32 rfl rfl ?_
            refine v_getr C 68 dX9_say_33 fX9_70 (by omega) hE3_68 rfl rfl ?_
            refine v_iload C 4 dX9_say_36 rfl ?_
            refine v_iconst (v := 1) C dX9_say_38 (by decide) ?_
            refine v_isub C dX9_say_39 ?_
            refine v_top (fun x79 ex79 => ?_)
            have hx79 : x79.toInt = ((a : Int) - 1) := by rw [ex79]; exact ti_sub hy2 (show (1 : Int32).toInt = 1 by decide) (by omega) (by omega)
            refine v_ald (v := sw (a - 1)) C 83 dX9_say_40 (by omega) hE3_83 (ti_in hx79 (by omega) (by omega)) (by rw [ti_cl hx79, show Int.toNat ((a : Int) - 1) = a - 1 by omega]) ?_
            refine v_iload_n C 2 dX9_say_41 rfl rfl ?_
            refine b_icmp_ne C 57 dX9_say_42 (by decide) (rfl : Int32.toInt (sw (a - 1)) = _) (rfl : Int32.toInt w = _) (fun c80 => ?_) (fun c80 => ?_)
            · refine v_iload_n C 1 dX9_say_57 rfl rfl ?_
              refine v_istore (lv' := [(0, .ref (ad 68)), (1, .int m), (2, .int w), (3, .int v), (4, .int y2), (5, .int m)]) C [1, 2, 3, 4, 5, 0] dX9_say_58 (by decide) rfl ?_
              have LP81 : ∀ (t : Nat) (i : Nat) (y82 : Int32) (E83 : Nat → va_E) (sw2 : Nat → Int32) (so2 : Nat → Int32), (y82.toInt = (i : Int)) → (E83 83 = aI G 800 sw2) → (E83 84 = aI G 800 so2) → (∀ j, j ≠ 83 → j ≠ 84 → E83 j = E3 j) → (a ≤ i) → (i ≤ c) → (∀ q, q ≤ i → sw2 q = sw q ∧ so2 q = so q) → (∀ q, i < q → q ≤ c → sw2 q = sw (q - 1) ∧ so2 q = so (q - 1)) → (i : Int) < (t : Int) → V X G A 6 (QI X G A (n) ad (fun r E' => ∃ (c1 : Nat) (sw1 so1 : Nat → Int32), r.toInt = (c1 : Int) ∧ E' 83 = aI G 800 sw1 ∧ E' 84 = aI G 800 so1 ∧ AR c1 sw1 so1 (insL w.toInt v.toInt L) ∧ c1 ≤ c + 1 ∧ ∀ j, j ≠ 83 → j ≠ 84 → E' j = E j)) (n) ad 0 0 E83 60 [(0, .ref (ad 68)), (1, .int m), (2, .int w), (3, .int v), (4, .int y2), (5, .int y82)] [] := by
                intro t89
                induction t89 with
                | zero => intro i y82 E83 sw2 so2 hy82 hE83_83 hE83_84 hfr84 hq85 hq86 hq87 hq88 hm91; exfalso; omega
                | succ t89 ih90 =>
                  intro i y82 E83 sw2 so2 hy82 hE83_83 hE83_84 hfr84 hq85 hq86 hq87 hq88 hm91
                  have hE83_68 := (hfr84 68 (by decide) (by decide)).trans hE3_68
                  refine v_iload C 5 dX9_say_60 rfl ?_
                  refine v_iload C 4 dX9_say_62 rfl ?_
                  refine b_icmp_le C 105 dX9_say_64 (by decide) hy82 hy2 (fun c92 => ?_) (fun c92 => ?_)
                  · refine v_aload_n C 0 dX9_say_105 rfl rfl ?_
                    refine v_getr C 68 dX9_say_106 fX9_70 (by omega) hE83_68 rfl rfl ?_
                    refine v_iload C 4 dX9_say_109 rfl ?_
                    refine v_iload_n C 2 dX9_say_111 rfl rfl ?_
                    refine v_ast C 83 dX9_say_112 (by omega) hE83_83 (ti_in hy2 (by omega) (by omega)) (fun E93 hE93_83 oE93 => ?_)
                    rw [ti_cl hy2, show Int.toNat (a : Int) = a by omega] at hE93_83
                    have hE93_68 := (oE93 68 (by decide)).trans hE83_68
                    have hE93_84 := (oE93 84 (by decide)).trans hE83_84
                    refine v_aload_n C 0 dX9_say_113 rfl rfl ?_
                    refine v_getr C 68 dX9_say_114 fX9_73 (by omega) hE93_68 rfl rfl ?_
                    refine v_iload C 4 dX9_say_117 rfl ?_
                    refine v_iload_n C 3 dX9_say_119 rfl rfl ?_
                    refine v_ast C 84 dX9_say_120 (by omega) hE93_84 (ti_in hy2 (by omega) (by omega)) (fun E94 hE94_84 oE94 => ?_)
                    rw [ti_cl hy2, show Int.toNat (a : Int) = a by omega] at hE94_84
                    have hE94_68 := (oE94 68 (by decide)).trans hE93_68
                    have hE94_83 := (oE94 83 (by decide)).trans hE93_83
                    refine v_iload_n C 1 dX9_say_121 rfl rfl ?_
                    refine v_iconst (v := 1) C dX9_say_122 (by decide) ?_
                    refine v_iadd C dX9_say_123 ?_
                    refine v_top (fun x95 ex95 => ?_)
                    have hx95 : x95.toInt = ((c : Int) + 1) := by rw [ex95]; exact ti_add hmc (show (1 : Int32).toInt = 1 by decide) (by omega) (by omega)
                    exact v_ret C dX9_say_124 rfl rfl ⟨c + 1, _, _, (by rw [hx95]; omega), hE94_83, hE94_84, AR_new hA (k := a) (by omega) (AR_low hA hs (by omega) (by first | (left; omega) | (right; omega))) (fun hk => hq6 a (Nat.le_refl a) hk) (fun q hq => ⟨(upd_ne (by omega)).trans (hq87 q (by omega)).1, (upd_ne (by omega)).trans (hq87 q (by omega)).2⟩) ⟨by rw [upd_same], by rw [upd_same]⟩ (fun q h1 h2 => ⟨(upd_ne (by omega)).trans (hq88 q (by omega) h2).1, (upd_ne (by omega)).trans (hq88 q (by omega) h2).2⟩), by omega, fun j g3 g4 => ((oE94 j g4).trans ((oE93 j g3).trans ((hfr84 j g3 g4).trans (hfr4 j ))))⟩
                  · refine v_aload_n C 0 dX9_say_67 rfl rfl ?_
                    refine v_getr C 68 dX9_say_68 fX9_70 (by omega) hE83_68 rfl rfl ?_
                    refine v_iload C 5 dX9_say_71 rfl ?_
                    refine v_aload_n C 0 dX9_say_73 rfl rfl ?_
                    refine v_getr C 68 dX9_say_74 fX9_70 (by omega) hE83_68 rfl rfl ?_
                    refine v_iload C 5 dX9_say_77 rfl ?_
                    refine v_iconst (v := 1) C dX9_say_79 (by decide) ?_
                    refine v_isub C dX9_say_80 ?_
                    refine v_top (fun x96 ex96 => ?_)
                    have hx96 : x96.toInt = ((i : Int) - 1) := by rw [ex96]; exact ti_sub hy82 (show (1 : Int32).toInt = 1 by decide) (by omega) (by omega)
                    refine v_ald (v := sw2 (i - 1)) C 83 dX9_say_81 (by omega) hE83_83 (ti_in hx96 (by omega) (by omega)) (by rw [ti_cl hx96, show Int.toNat ((i : Int) - 1) = i - 1 by omega]) ?_
                    refine v_ast C 83 dX9_say_82 (by omega) hE83_83 (ti_in hy82 (by omega) (by omega)) (fun E97 hE97_83 oE97 => ?_)
                    rw [ti_cl hy82, show Int.toNat (i : Int) = i by omega] at hE97_83
                    have hE97_68 := (oE97 68 (by decide)).trans hE83_68
                    have hE97_84 := (oE97 84 (by decide)).trans hE83_84
                    refine v_aload_n C 0 dX9_say_83 rfl rfl ?_
                    refine v_getr C 68 dX9_say_84 fX9_73 (by omega) hE97_68 rfl rfl ?_
                    refine v_iload C 5 dX9_say_87 rfl ?_
                    refine v_aload_n C 0 dX9_say_89 rfl rfl ?_
                    refine v_getr C 68 dX9_say_90 fX9_73 (by omega) hE97_68 rfl rfl ?_
                    refine v_iload C 5 dX9_say_93 rfl ?_
                    refine v_iconst (v := 1) C dX9_say_95 (by decide) ?_
                    refine v_isub C dX9_say_96 ?_
                    refine v_top (fun x98 ex98 => ?_)
                    have hx98 : x98.toInt = ((i : Int) - 1) := by rw [ex98]; exact ti_sub hy82 (show (1 : Int32).toInt = 1 by decide) (by omega) (by omega)
                    refine v_ald (v := so2 (i - 1)) C 84 dX9_say_97 (by omega) hE97_84 (ti_in hx98 (by omega) (by omega)) (by rw [ti_cl hx98, show Int.toNat ((i : Int) - 1) = i - 1 by omega]) ?_
                    refine v_ast C 84 dX9_say_98 (by omega) hE97_84 (ti_in hy82 (by omega) (by omega)) (fun E99 hE99_84 oE99 => ?_)
                    rw [ti_cl hy82, show Int.toNat (i : Int) = i by omega] at hE99_84
                    have hE99_68 := (oE99 68 (by decide)).trans hE97_68
                    have hE99_83 := (oE99 83 (by decide)).trans hE97_83
                    obtain ⟨x100, ex100⟩ : ∃ y : Int32, y = y82 + (-1) := ⟨_, rfl⟩
                    have hx100 : x100.toInt = ((i : Int) + (-1)) := by rw [ex100]; exact ti_add hy82 (show ((-1) : Int32).toInt = (-1) by decide) (by omega) (by omega)
                    refine v_iinc (v := x100) (lv' := [(0, .ref (ad 68)), (1, .int m), (2, .int w), (3, .int v), (4, .int y2), (5, .int x100)]) C 5 [1, 2, 3, 4, 5, 0] dX9_say_99 rfl (ex100.symm) (by decide) rfl ?_
                    refine v_goto C 60 dX9_say_102 (by decide) ?_
                    exact ih90 (i - 1) x100 E99 (upd sw2 i (sw2 (i - 1))) (upd so2 i (so2 (i - 1))) (show Int32.toInt x100 = ((i - 1 : Nat) : Int) by have := hx100; omega) hE99_83 hE99_84 (fun j g0 g1 => ((oE99 j g1).trans ((oE97 j g0).trans (hfr84 j g0 g1)))) (by omega) (by omega) (fun q hq => ⟨(upd_ne (by omega)).trans (hq87 q (by omega)).1, (upd_ne (by omega)).trans (hq87 q (by omega)).2⟩) (fun q h1 h2 => by by_cases e : q = i; (rw [e, upd_same, upd_same]; exact hq87 (i - 1) (by omega)); (rw [upd_ne e, upd_ne e]; exact hq88 q (by omega) h2)) (by omega)
              exact LP81 100000 c m E3 sw so (show Int32.toInt m = ((c : Nat) : Int) by have := hmc; omega) hE3_83 hE3_84 (fun j _ _ => rfl) (by omega) (by omega) (fun q _ => ⟨rfl, rfl⟩) (fun q h1 h2 => absurd h2 (by omega)) (by omega)
            · refine v_aload_n C 0 dX9_say_45 rfl rfl ?_
              refine v_getr C 68 dX9_say_46 fX9_73 (by omega) hE3_68 rfl rfl ?_
              refine v_iload C 4 dX9_say_49 rfl ?_
              refine v_iconst (v := 1) C dX9_say_51 (by decide) ?_
              refine v_isub C dX9_say_52 ?_
              refine v_top (fun x101 ex101 => ?_)
              have hx101 : x101.toInt = ((a : Int) - 1) := by rw [ex101]; exact ti_sub hy2 (show (1 : Int32).toInt = 1 by decide) (by omega) (by omega)
              refine v_iload_n C 3 dX9_say_53 rfl rfl ?_
              refine v_ast C 84 dX9_say_54 (by omega) hE3_84 (ti_in hx101 (by omega) (by omega)) (fun E102 hE102_84 oE102 => ?_)
              rw [ti_cl hx101, show Int.toNat ((a : Int) - 1) = a - 1 by omega] at hE102_84
              have hE102_68 := (oE102 68 (by decide)).trans hE3_68
              have hE102_83 := (oE102 83 (by decide)).trans hE3_83
              refine v_iload_n C 1 dX9_say_55 rfl rfl ?_
              exact v_ret C dX9_say_56 rfl rfl ⟨c, _, _, hmc, hE102_83, hE102_84, AR_same hA (k := a - 1) (by omega) (fun i hi => by have := AR_lt hA hs (i := i) (j := a - 1) hi (by omega); omega) (by omega) (fun i _ hi => ⟨rfl, upd_ne hi⟩) ⟨by omega, by rw [upd_same]⟩, by omega, fun j g3 g4 => ((oE102 j g4).trans (hfr4 j ))⟩
        · obtain ⟨x103, ex103⟩ : ∃ y : Int32, y = y2 + (-1) := ⟨_, rfl⟩
          have hx103 : x103.toInt = ((a : Int) + (-1)) := by rw [ex103]; exact ti_add hy2 (show ((-1) : Int32).toInt = (-1) by decide) (by omega) (by omega)
          refine v_iinc (v := x103) (lv' := [(0, .ref (ad 68)), (1, .int m), (2, .int w), (3, .int v), (4, .int x103)]) C 4 [1, 2, 3, 4, 0] dX9_say_21 rfl (ex103.symm) (by decide) rfl ?_
          refine v_goto C 3 dX9_say_24 (by decide) ?_
          exact ih8 (a - 1) x103 E3 (show Int32.toInt x103 = ((a - 1 : Nat) : Int) by have := hx103; omega) (fun j => (hfr4 j )) (by omega) (fun i h1 h2 => by by_cases q : i = a - 1; (rw [q]; omega); (exact hq6 i (by omega) h2)) (by omega)
  exact LP1 100000 c m E (show Int32.toInt m = ((c : Nat) : Int) by have := hmc; omega) (fun j => rfl) (by omega) (fun i h1 h2 => absurd h2 (by omega)) (by omega)

