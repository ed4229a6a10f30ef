theorem fz1_of {x : Int32} (h : x = 0 ∨ x = 1) (h2 : x.toInt ≠ 0) : x = 1 := by
  rcases h with q | q
  · rw [q] at h2; exact absurd (show (0 : Int32).toInt = 0 by decide) h2
  · exact q
set_option maxRecDepth 20000 in
theorem y_find (l : Launch) (G : Gl) (n : Nat) (ad : Nat → Nat) (E : Nat → va_E) (hn : 98 ≤ n) {im ic md : Nat → Int32} (hW : MCal G ad E im ic md) {rf rto ron rat rbe rtd rm fv fz sf sp sc sw so : Nat → Int32} (h71 : E 71 = aI G 5 fv) (h72 : E 72 = aI G 40 rf) (h73 : E 73 = aI G 40 rto) (h74 : E 74 = aI G 40 ron) (h75 : E 75 = aI G 40 rat) (h76 : E 76 = aI G 40 rbe) (h77 : E 77 = aI G 40 rtd) (h78 : E 78 = aI G 5 rm) (h79 : E 79 = aZ G 5 fz) (h80 : E 80 = aI G 4005 sf) (h81 : E 81 = aI G 4005 sp) (h82 : E 82 = aI G 5 sc) (h83 : E 83 = aI G 800 sw) (h84 : E 84 = aI G 800 so) (hfz : ∀ k, fz k = 0 ∨ fz k = 1) {zz R : Nat} (hzz : zz < 5) (hR : (rm zz).toInt = (R : Int)) (hR8 : R ≤ 8) (hRV : RVs ic rf rto ron rat rbe rtd zz R) (hv0 : -720 ≤ (fv zz).toInt ∧ (fv zz).toInt ≤ 720) (hLb : ∀ p ∈ rgL (WZ ic md rf rto ron rat zz R) (BZ rbe zz) (cntT (tdz rtd zz) (im 18).toInt R), (0 ≤ p.1 ∧ p.1 ≤ 69300000) ∧ -720 ≤ p.2 ∧ p.2 ≤ 720) (z : Int32) (hz : z.toInt = (zz : Int)) : CtV l G yX9_find cX9_find 7 3 70 (n) ad E [.ref (ad 68), .int z] (fun E' => (fz zz = 1 ∧ E = E') ∨ (∃ (im1 : Nat → Int32) (c : Nat) (sf1 sp1 sw1 so1 : Nat → Int32) (z1 : Int32), (∀ q, q ≠ 7 → im1 q = im q) ∧ MCal G ad E' im1 ic md ∧ E' 79 = aZ G 5 (upd fz zz 1) ∧ E' 80 = aI G 4005 sf1 ∧ E' 81 = aI G 4005 sp1 ∧ E' 82 = aI G 5 (upd sc zz z1) ∧ z1.toInt = (c : Int) ∧ E' 83 = aI G 800 sw1 ∧ E' 84 = aI G 800 so1 ∧ (∀ q, (q < 801 * zz ∨ 801 * zz + 800 < q) → sf1 q = sf q ∧ sp1 q = sp q) ∧ c ≤ 800 ∧ ZR (c : Int) (fun i => sf1 (801 * zz + i)) (fun i => sp1 (801 * zz + i)) (TKl (fv zz).toInt (rgL (WZ ic md rf rto ron rat zz R) (BZ rbe zz) (cntT (tdz rtd zz) (im 18).toInt R))) ∧ ∀ j, j ≠ 68 → j ≠ 70 → j ≠ 79 → j ≠ 80 → j ≠ 81 → j ≠ 82 → j ≠ 83 → j ≠ 84 → E' j = E j)) := by
  refine CtV.of (by decide) (Nat.le_of_ble_eq_true rfl) (fun X A C => ?_)
  refine v_sub (lv' := [(0, .ref (ad 68)), (1, .int z)]) [0, 1] rfl ?_
  obtain ⟨hic, hP, h68, h69, h7, mf, h70, hm0, hmc0⟩ := id hW
  have hRVt : ∀ r s, r ≤ s → s < R → ((tdz rtd zz) r).toInt ≤ ((tdz rtd zz) s).toInt := hRV.2
  refine v_aload_n C 0 dX9_find_0 rfl rfl ?_
  refine v_getr C 68 dX9_find_1 fX9_57 (by omega) h68 rfl rfl ?_
  refine v_iload_n C 1 dX9_find_4 rfl rfl ?_
  refine v_zald (v := fz zz) C 79 dX9_find_5 (by omega) h79 (ti_in hz (by omega) (by omega)) (by rw [ti_cl hz, show Int.toNat (zz : Int) = zz by omega]) ?_
  refine b_if_eq C 10 dX9_find_6 (by decide) (rfl : Int32.toInt (fz zz) = _) (fun c1 => ?_) (fun c1 => ?_)
  · refine v_iconst (v := 0) C dX9_find_10 (by decide) ?_
    refine v_istore_n (lv' := [(0, .ref (ad 68)), (1, .int z), (2, .int 0)]) C [1, 2, 0] dX9_find_11 rfl (by decide) rfl ?_
    refine v_bipush (v := 8) C dX9_find_12 (by decide) ?_
    refine v_iload_n C 1 dX9_find_14 rfl rfl ?_
    refine v_imul C dX9_find_15 ?_
    refine v_top (fun x2 ex2 => ?_)
    have hx2 : x2.toInt = (8 * (zz : Int)) := by rw [ex2]; exact ti_mul (show (8 : Int32).toInt = 8 by decide) hz (by omega) (by omega)
    refine v_istore_n (lv' := [(0, .ref (ad 68)), (1, .int z), (2, .int 0), (3, .int x2)]) C [1, 2, 3, 0] dX9_find_16 rfl (by decide) rfl ?_
    have LP3 : ∀ (t : Nat) (c1 : Nat) (y4 : Int32) (p1 : Nat) (y5 : Int32) (E6 : Nat → va_E) (im1 : Nat → Int32) (mf1 : Nat → Int32) (sw1 : Nat → Int32) (so1 : Nat → Int32), (y4.toInt = (c1 : Int)) → (y5.toInt = (p1 : Int)) → (E6 68 = ob 9 (rX9 ad) im1) → (E6 70 = aI G 1201 mf1) → (E6 83 = aI G 800 sw1) → (E6 84 = aI G 800 so1) → (∀ j, j ≠ 68 → j ≠ 70 → j ≠ 83 → j ≠ 84 → E6 j = E j) → (8 * zz ≤ p1) → (p1 ≤ 8 * zz + R) → (c1 ≤ 100 * (p1 - 8 * zz)) → (MC0 ic md im im1 mf1) → (AR c1 sw1 so1 (rgL (WZ ic md rf rto ron rat zz R) (BZ rbe zz) (cntT (tdz rtd zz) (im 18).toInt (p1 - 8 * zz)))) → 8 * (zz : Int) + (R : Int) - (p1 : Int) < (t : Int) → V X G A 7 (QV X G A (n) ad (fun E' => (fz zz = 1 ∧ E = E') ∨ (∃ (im1 : Nat → Int32) (c : Nat) (sf1 sp1 sw1 so1 : Nat → Int32) (z1 : Int32), (∀ q, q ≠ 7 → im1 q = im q) ∧ MCal G ad E' im1 ic md ∧ E' 79 = aZ G 5 (upd fz zz 1) ∧ E' 80 = aI G 4005 sf1 ∧ E' 81 = aI G 4005 sp1 ∧ E' 82 = aI G 5 (upd sc zz z1) ∧ z1.toInt = (c : Int) ∧ E' 83 = aI G 800 sw1 ∧ E' 84 = aI G 800 so1 ∧ (∀ q, (q < 801 * zz ∨ 801 * zz + 800 < q) → sf1 q = sf q ∧ sp1 q = sp q) ∧ c ≤ 800 ∧ ZR (c : Int) (fun i => sf1 (801 * zz + i)) (fun i => sp1 (801 * zz + i)) (TKl (fv zz).toInt (rgL (WZ ic md rf rto ron rat zz R) (BZ rbe zz) (cntT (tdz rtd zz) (im 18).toInt R))) ∧ ∀ j, j ≠ 68 → j ≠ 70 → j ≠ 79 → j ≠ 80 → j ≠ 81 → j ≠ 82 → j ≠ 83 → j ≠ 84 → E' j = E j))) (n) ad 0 0 E6 17 [(0, .ref (ad 68)), (1, .int z), (2, .int y4), (3, .int y5)] [] := by
      intro t13
      induction t13 with
      | zero => intro c1 y4 p1 y5 E6 im1 mf1 sw1 so1 hy4 hy5 hE6_68 hE6_70 hE6_83 hE6_84 hfr7 hq8 hq9 hq10 hq11 hq12 hm15; exfalso; omega
      | succ t13 ih14 =>
        intro c1 y4 p1 y5 E6 im1 mf1 sw1 so1 hy4 hy5 hE6_68 hE6_70 hE6_83 hE6_84 hfr7 hq8 hq9 hq10 hq11 hq12 hm15
        have hE6_69 := (hfr7 69 (by decide) (by decide) (by decide) (by decide)).trans h69
        have hE6_71 := (hfr7 71 (by decide) (by decide) (by decide) (by decide)).trans h71
        have hE6_72 := (hfr7 72 (by decide) (by decide) (by decide) (by decide)).trans h72
        have hE6_73 := (hfr7 73 (by decide) (by decide) (by decide) (by decide)).trans h73
        have hE6_74 := (hfr7 74 (by decide) (by decide) (by decide) (by decide)).trans h74
        have hE6_75 := (hfr7 75 (by decide) (by decide) (by decide) (by decide)).trans h75
        have hE6_76 := (hfr7 76 (by decide) (by decide) (by decide) (by decide)).trans h76
        have hE6_77 := (hfr7 77 (by decide) (by decide) (by decide) (by decide)).trans h77
        have hE6_78 := (hfr7 78 (by decide) (by decide) (by decide) (by decide)).trans h78
        have hE6_80 := (hfr7 80 (by decide) (by decide) (by decide) (by decide)).trans h80
        have hE6_81 := (hfr7 81 (by decide) (by decide) (by decide) (by decide)).trans h81
        have hE6_82 := (hfr7 82 (by decide) (by decide) (by decide) (by decide)).trans h82
        have hE6_79 := (hfr7 79 (by decide) (by decide) (by decide) (by decide)).trans h79
        refine v_iload_n C 3 dX9_find_17 rfl rfl ?_
        refine v_bipush (v := 8) C dX9_find_18 (by decide) ?_
        refine v_iload_n C 1 dX9_find_20 rfl rfl ?_
        refine v_imul C dX9_find_21 ?_
        refine v_top (fun x16 ex16 => ?_)
        have hx16 : x16.toInt = (8 * (zz : Int)) := by rw [ex16]; exact ti_mul (show (8 : Int32).toInt = 8 by decide) hz (by omega) (by omega)
        refine v_aload_n C 0 dX9_find_22 rfl rfl ?_
        refine v_getr C 68 dX9_find_23 fX9_50 (by omega) hE6_68 rfl rfl ?_
        refine v_iload_n C 1 dX9_find_26 rfl rfl ?_
        refine v_ald (v := rm zz) C 78 dX9_find_27 (by omega) hE6_78 (ti_in hz (by omega) (by omega)) (by rw [ti_cl hz, show Int.toNat (zz : Int) = zz by omega]) ?_
        refine v_iadd C dX9_find_28 ?_
        refine v_top (fun x17 ex17 => ?_)
        have hx17 : x17.toInt = ((8 * (zz : Int)) + (R : Int)) := by rw [ex17]; exact ti_add hx16 hR (by omega) (by omega)
        refine b_icmp_ge C 149 dX9_find_29 (by decide) hy5 hx17 (fun c18 => ?_) (fun c18 => ?_)
        · refine v_sipush (v := 801) C dX9_find_149 (by decide) ?_
          refine v_iload_n C 1 dX9_find_152 rfl rfl ?_
          refine v_imul C dX9_find_153 ?_
          refine v_top (fun x19 ex19 => ?_)
          have hx19 : x19.toInt = (801 * (zz : Int)) := by rw [ex19]; exact ti_mul (show (801 : Int32).toInt = 801 by decide) hz (by omega) (by omega)
          refine v_istore_n (lv' := [(0, .ref (ad 68)), (1, .int z), (2, .int y4), (3, .int x19)]) C [1, 2, 3, 0] dX9_find_154 rfl (by decide) rfl ?_
          refine v_aload_n C 0 dX9_find_155 rfl rfl ?_
          refine v_getr C 68 dX9_find_156 fX9_61 (by omega) hE6_68 rfl rfl ?_
          refine v_iload_n C 3 dX9_find_159 rfl rfl ?_
          refine v_iconst (v := 0) C dX9_find_160 (by decide) ?_
          refine v_ast C 80 dX9_find_161 (by omega) hE6_80 (ti_in hx19 (by omega) (by omega)) (fun E20 hE20_80 oE20 => ?_)
          rw [ti_cl hx19, show Int.toNat (801 * (zz : Int)) = 801 * zz by omega] at hE20_80
          have hE20_68 := (oE20 68 (by decide)).trans hE6_68
          have hE20_69 := (oE20 69 (by decide)).trans hE6_69
          have hE20_70 := (oE20 70 (by decide)).trans hE6_70
          have hE20_71 := (oE20 71 (by decide)).trans hE6_71
          have hE20_72 := (oE20 72 (by decide)).trans hE6_72
          have hE20_73 := (oE20 73 (by decide)).trans hE6_73
          have hE20_74 := (oE20 74 (by decide)).trans hE6_74
          have hE20_75 := (oE20 75 (by decide)).trans hE6_75
          have hE20_76 := (oE20 76 (by decide)).trans hE6_76
          have hE20_77 := (oE20 77 (by decide)).trans hE6_77
          have hE20_78 := (oE20 78 (by decide)).trans hE6_78
          have hE20_81 := (oE20 81 (by decide)).trans hE6_81
          have hE20_82 := (oE20 82 (by decide)).trans hE6_82
          have hE20_83 := (oE20 83 (by decide)).trans hE6_83
          have hE20_84 := (oE20 84 (by decide)).trans hE6_84
          have hE20_79 := (oE20 79 (by decide)).trans hE6_79
          refine v_aload_n C 0 dX9_find_162 rfl rfl ?_
          refine v_getr C 68 dX9_find_163 fX9_64 (by omega) hE20_68 rfl rfl ?_
          refine v_iload_n C 3 dX9_find_166 rfl rfl ?_
          refine v_aload_n C 0 dX9_find_167 rfl rfl ?_
          refine v_getr C 68 dX9_find_168 fX9_29 (by omega) hE20_68 rfl rfl ?_
          refine v_iload_n C 1 dX9_find_171 rfl rfl ?_
          refine v_ald (v := fv zz) C 71 dX9_find_172 (by omega) hE20_71 (ti_in hz (by omega) (by omega)) (by rw [ti_cl hz, show Int.toNat (zz : Int) = zz by omega]) ?_
          refine v_ast C 81 dX9_find_173 (by omega) hE20_81 (ti_in hx19 (by omega) (by omega)) (fun E21 hE21_81 oE21 => ?_)
          rw [ti_cl hx19, show Int.toNat (801 * (zz : Int)) = 801 * zz by omega] at hE21_81
          have hE21_68 := (oE21 68 (by decide)).trans hE20_68
          have hE21_69 := (oE21 69 (by decide)).trans hE20_69
          have hE21_70 := (oE21 70 (by decide)).trans hE20_70
          have hE21_71 := (oE21 71 (by decide)).trans hE20_71
          have hE21_72 := (oE21 72 (by decide)).trans hE20_72
          have hE21_73 := (oE21 73 (by decide)).trans hE20_73
          have hE21_74 := (oE21 74 (by decide)).trans hE20_74
          have hE21_75 := (oE21 75 (by decide)).trans hE20_75
          have hE21_76 := (oE21 76 (by decide)).trans hE20_76
          have hE21_77 := (oE21 77 (by decide)).trans hE20_77
          have hE21_78 := (oE21 78 (by decide)).trans hE20_78
          have hE21_80 := (oE21 80 (by decide)).trans hE20_80
          have hE21_82 := (oE21 82 (by decide)).trans hE20_82
          have hE21_83 := (oE21 83 (by decide)).trans hE20_83
          have hE21_84 := (oE21 84 (by decide)).trans hE20_84
          have hE21_79 := (oE21 79 (by decide)).trans hE20_79
          refine v_iconst (v := 0) C dX9_find_174 (by decide) ?_
          refine v_istore (lv' := [(0, .ref (ad 68)), (1, .int z), (2, .int y4), (3, .int x19), (4, .int 0)]) C [1, 2, 3, 4, 0] dX9_find_175 (by decide) rfl ?_
          refine v_iconst (v := 0) C dX9_find_177 (by decide) ?_
          refine v_istore (lv' := [(0, .ref (ad 68)), (1, .int z), (2, .int y4), (3, .int x19), (4, .int 0), (5, .int 0)]) C [1, 2, 3, 4, 5, 0] dX9_find_178 (by decide) rfl ?_
          have LP22 : ∀ (t : Nat) (tk : Nat) (y23 : Int32) (i1 : Nat) (y24 : Int32) (E25 : Nat → va_E) (sf1 : Nat → Int32) (sp1 : Nat → Int32), (y23.toInt = (tk : Int)) → (y24.toInt = (i1 : Int)) → (E25 80 = aI G 4005 sf1) → (E25 81 = aI G 4005 sp1) → (∀ j, j ≠ 80 → j ≠ 81 → E25 j = E21 j) → (i1 ≤ c1) → (tk ≤ i1) → (∀ q, (q < 801 * zz ∨ 801 * zz + 800 < q) → sf1 q = sf q ∧ sp1 q = sp q) → (ZR (tk : Int) (fun i => sf1 (801 * zz + i)) (fun i => sp1 (801 * zz + i)) (TKl (fv zz).toInt ((rgL (WZ ic md rf rto ron rat zz R) (BZ rbe zz) (cntT (tdz rtd zz) (im 18).toInt R)).take i1))) → (c1 : Int) - (i1 : Int) < (t : Int) → V X G A 7 (QV X G A (n) ad (fun E' => (fz zz = 1 ∧ E = E') ∨ (∃ (im1 : Nat → Int32) (c : Nat) (sf1 sp1 sw1 so1 : Nat → Int32) (z1 : Int32), (∀ q, q ≠ 7 → im1 q = im q) ∧ MCal G ad E' im1 ic md ∧ E' 79 = aZ G 5 (upd fz zz 1) ∧ E' 80 = aI G 4005 sf1 ∧ E' 81 = aI G 4005 sp1 ∧ E' 82 = aI G 5 (upd sc zz z1) ∧ z1.toInt = (c : Int) ∧ E' 83 = aI G 800 sw1 ∧ E' 84 = aI G 800 so1 ∧ (∀ q, (q < 801 * zz ∨ 801 * zz + 800 < q) → sf1 q = sf q ∧ sp1 q = sp q) ∧ c ≤ 800 ∧ ZR (c : Int) (fun i => sf1 (801 * zz + i)) (fun i => sp1 (801 * zz + i)) (TKl (fv zz).toInt (rgL (WZ ic md rf rto ron rat zz R) (BZ rbe zz) (cntT (tdz rtd zz) (im 18).toInt R))) ∧ ∀ j, j ≠ 68 → j ≠ 70 → j ≠ 79 → j ≠ 80 → j ≠ 81 → j ≠ 82 → j ≠ 83 → j ≠ 84 → E' j = E j))) (n) ad 0 0 E25 180 [(0, .ref (ad 68)), (1, .int z), (2, .int y4), (3, .int x19), (4, .int y23), (5, .int y24)] [] := by
            intro t31
            induction t31 with
            | zero => intro tk y23 i1 y24 E25 sf1 sp1 hy23 hy24 hE25_80 hE25_81 hfr26 hq27 hq28 hq29 hq30 hm33; exfalso; omega
            | succ t31 ih32 =>
              intro tk y23 i1 y24 E25 sf1 sp1 hy23 hy24 hE25_80 hE25_81 hfr26 hq27 hq28 hq29 hq30 hm33
              have hE25_68 := (hfr26 68 (by decide) (by decide)).trans hE21_68
              have hE25_69 := (hfr26 69 (by decide) (by decide)).trans hE21_69
              have hE25_70 := (hfr26 70 (by decide) (by decide)).trans hE21_70
              have hE25_71 := (hfr26 71 (by decide) (by decide)).trans hE21_71
              have hE25_72 := (hfr26 72 (by decide) (by decide)).trans hE21_72
              have hE25_73 := (hfr26 73 (by decide) (by decide)).trans hE21_73
              have hE25_74 := (hfr26 74 (by decide) (by decide)).trans hE21_74
              have hE25_75 := (hfr26 75 (by decide) (by decide)).trans hE21_75
              have hE25_76 := (hfr26 76 (by decide) (by decide)).trans hE21_76
              have hE25_77 := (hfr26 77 (by decide) (by decide)).trans hE21_77
              have hE25_78 := (hfr26 78 (by decide) (by decide)).trans hE21_78
              have hE25_82 := (hfr26 82 (by decide) (by decide)).trans hE21_82
              have hE25_83 := (hfr26 83 (by decide) (by decide)).trans hE21_83
              have hE25_84 := (hfr26 84 (by decide) (by decide)).trans hE21_84
              have hE25_79 := (hfr26 79 (by decide) (by decide)).trans hE21_79
              refine v_iload C 5 dX9_find_180 rfl ?_
              refine v_iload_n C 2 dX9_find_182 rfl rfl ?_
              refine b_icmp_ge C 265 dX9_find_183 (by decide) hy24 hy4 (fun c34 => ?_) (fun c34 => ?_)
              · refine v_aload_n C 0 dX9_find_265 rfl rfl ?_
                refine v_getr C 68 dX9_find_266 fX9_67 (by omega) hE25_68 rfl rfl ?_
                refine v_iload_n C 1 dX9_find_269 rfl rfl ?_
                refine v_iload C 4 dX9_find_270 rfl ?_
                refine v_ast C 82 dX9_find_272 (by omega) hE25_82 (ti_in hz (by omega) (by omega)) (fun E35 hE35_82 oE35 => ?_)
                rw [ti_cl hz, show Int.toNat (zz : Int) = zz by omega] at hE35_82
                have hE35_68 := (oE35 68 (by decide)).trans hE25_68
                have hE35_69 := (oE35 69 (by decide)).trans hE25_69
                have hE35_70 := (oE35 70 (by decide)).trans hE25_70
                have hE35_71 := (oE35 71 (by decide)).trans hE25_71
                have hE35_72 := (oE35 72 (by decide)).trans hE25_72
                have hE35_73 := (oE35 73 (by decide)).trans hE25_73
                have hE35_74 := (oE35 74 (by decide)).trans hE25_74
                have hE35_75 := (oE35 75 (by decide)).trans hE25_75
                have hE35_76 := (oE35 76 (by decide)).trans hE25_76
                have hE35_77 := (oE35 77 (by decide)).trans hE25_77
                have hE35_78 := (oE35 78 (by decide)).trans hE25_78
                have hE35_80 := (oE35 80 (by decide)).trans hE25_80
                have hE35_81 := (oE35 81 (by decide)).trans hE25_81
                have hE35_83 := (oE35 83 (by decide)).trans hE25_83
                have hE35_84 := (oE35 84 (by decide)).trans hE25_84
                have hE35_79 := (oE35 79 (by decide)).trans hE25_79
                refine v_aload_n C 0 dX9_find_273 rfl rfl ?_
                refine v_getr C 68 dX9_find_274 fX9_57 (by omega) hE35_68 rfl rfl ?_
                refine v_iload_n C 1 dX9_find_277 rfl rfl ?_
                refine v_iconst (v := 1) C dX9_find_278 (by decide) ?_
                refine v_zast C 79 dX9_find_279 (by omega) hE35_79 (ti_in hz (by omega) (by omega)) rfl (fun E36 hE36_79 oE36 => ?_)
                rw [ti_cl hz, show Int.toNat (zz : Int) = zz by omega] at hE36_79
                have hE36_68 := (oE36 68 (by decide)).trans hE35_68
                have hE36_69 := (oE36 69 (by decide)).trans hE35_69
                have hE36_70 := (oE36 70 (by decide)).trans hE35_70
                have hE36_71 := (oE36 71 (by decide)).trans hE35_71
                have hE36_72 := (oE36 72 (by decide)).trans hE35_72
                have hE36_73 := (oE36 73 (by decide)).trans hE35_73
                have hE36_74 := (oE36 74 (by decide)).trans hE35_74
                have hE36_75 := (oE36 75 (by decide)).trans hE35_75
                have hE36_76 := (oE36 76 (by decide)).trans hE35_76
                have hE36_77 := (oE36 77 (by decide)).trans hE35_77
                have hE36_78 := (oE36 78 (by decide)).trans hE35_78
                have hE36_80 := (oE36 80 (by decide)).trans hE35_80
                have hE36_81 := (oE36 81 (by decide)).trans hE35_81
                have hE36_82 := (oE36 82 (by decide)).trans hE35_82
                have hE36_83 := (oE36 83 (by decide)).trans hE35_83
                have hE36_84 := (oE36 84 (by decide)).trans hE35_84
                exact v_vret C dX9_find_280 rfl (Or.inr ⟨im1, tk, sf1, sp1, sw1, so1, y23, hq11.2.1, (show MCal G ad E36 im1 ic md from ⟨hq11.1, hP, hE36_68, hE36_69, hq11.2.2.1, mf1, hE36_70, hq11.2.2.2.1, hq11.2.2.2.2⟩), hE36_79, hE36_80, hE36_81, hE36_82, hy23, hE36_83, hE36_84, hq29, (by have := (hq30).1; have q := (TK_ok hv0 (show (0 : Int) ≤ 69300000 by decide) ((rgL (WZ ic md rf rto ron rat zz R) (BZ rbe zz) (cntT (tdz rtd zz) (im 18).toInt R)).take i1) (fun p hp => by have q := hLb p (List.mem_of_mem_take hp); exact ⟨q.1.2, q.2⟩)).2; have q2 := List.length_take_le i1 (rgL (WZ ic md rf rto ron rat zz R) (BZ rbe zz) (cntT (tdz rtd zz) (im 18).toInt R)); omega), (by have e := hq30; rw [List.take_of_length_le (show (rgL (WZ ic md rf rto ron rat zz R) (BZ rbe zz) (cntT (tdz rtd zz) (im 18).toInt R)).length ≤ i1 by have q := hq12; rw [show p1 - 8 * zz = R by omega] at q; have := q.1; omega)] at e; exact e), fun j g68 g70 g79 g80 g81 g82 g83 g84 => ((oE36 j g79).trans ((oE35 j g82).trans ((hfr26 j g80 g81).trans ((oE21 j g81).trans ((oE20 j g80).trans (hfr7 j g68 g70 g83 g84))))))⟩)
              · have hAR := hq12
                rw [show p1 - 8 * zz = R by omega] at hAR
                have hgi := hAR.2 i1 (by omega)
                have hst : tk = (TKl (fv zz).toInt ((rgL (WZ ic md rf rto ron rat zz R) (BZ rbe zz) (cntT (tdz rtd zz) (im 18).toInt R)).take i1)).1 := by have := (hq30).1; omega
                have hSs : (sf1 (801 * zz + tk)).toInt = (TKl (fv zz).toInt ((rgL (WZ ic md rf rto ron rat zz R) (BZ rbe zz) (cntT (tdz rtd zz) (im 18).toInt R)).take i1)).2.1 (TKl (fv zz).toInt ((rgL (WZ ic md rf rto ron rat zz R) (BZ rbe zz) (cntT (tdz rtd zz) (im 18).toInt R)).take i1)).1 := by rw [← hst]; exact ((hq30).2 tk (by omega)).1
                have hSo : (sp1 (801 * zz + tk)).toInt = (TKl (fv zz).toInt ((rgL (WZ ic md rf rto ron rat zz R) (BZ rbe zz) (cntT (tdz rtd zz) (im 18).toInt R)).take i1)).2.2 (TKl (fv zz).toInt ((rgL (WZ ic md rf rto ron rat zz R) (BZ rbe zz) (cntT (tdz rtd zz) (im 18).toInt R)).take i1)).1 := by rw [← hst]; exact ((hq30).2 tk (by omega)).2
                have hbL : ∀ p ∈ (rgL (WZ ic md rf rto ron rat zz R) (BZ rbe zz) (cntT (tdz rtd zz) (im 18).toInt R)).take i1, p.1 ≤ 69300000 ∧ -720 ≤ p.2 ∧ p.2 ≤ 720 := fun p hp => by have q := hLb p (List.mem_of_mem_take hp); exact ⟨q.1.2, q.2⟩
                have hok := TK_ok hv0 (show (0 : Int) ≤ 69300000 by decide) _ hbL
                have hob := hok.1.2.2.2 _ (Nat.le_refl _)
                have hsb := hok.1.2.1 _ (Nat.le_refl _)
                have hlt := List.length_take_le i1 (rgL (WZ ic md rf rto ron rat zz R) (BZ rbe zz) (cntT (tdz rtd zz) (im 18).toInt R))
                have hok2 := hok.2
                have hwb := (hLb _ (List.mem_of_getElem? hgi)).1
                dsimp only at hwb
                refine v_aload_n C 0 dX9_find_186 rfl rfl ?_
                refine v_getr C 68 dX9_find_187 fX9_70 (by omega) hE25_68 rfl rfl ?_
                refine v_iload C 5 dX9_find_190 rfl ?_
                refine v_ald (v := sw1 i1) C 83 dX9_find_192 (by omega) hE25_83 (ti_in hy24 (by omega) (by omega)) (by rw [ti_cl hy24, show Int.toNat (i1 : Int) = i1 by omega]) ?_
                refine v_aload_n C 0 dX9_find_193 rfl rfl ?_
                refine v_getr C 68 dX9_find_194 fX9_64 (by omega) hE25_68 rfl rfl ?_
                refine v_iload_n C 3 dX9_find_197 rfl rfl ?_
                refine v_iload C 4 dX9_find_198 rfl ?_
                refine v_iadd C dX9_find_200 ?_
                refine v_top (fun x37 ex37 => ?_)
                have hx37 : x37.toInt = ((801 * (zz : Int)) + (tk : Int)) := by rw [ex37]; exact ti_add hx19 hy23 (by omega) (by omega)
                refine v_ald (v := sp1 (801 * zz + tk)) C 81 dX9_find_201 (by omega) hE25_81 (ti_in hx37 (by omega) (by omega)) (by rw [ti_cl hx37, show Int.toNat ((801 * (zz : Int)) + (tk : Int)) = 801 * zz + tk by omega]) ?_
                refine v_isub C dX9_find_202 ?_
                refine v_top (fun x38 ex38 => ?_)
                have hx38 : x38.toInt = ((sw1 i1).toInt - (sp1 (801 * zz + tk)).toInt) := by rw [ex38]; exact ti_sub (rfl : Int32.toInt (sw1 i1) = _) (rfl : Int32.toInt (sp1 (801 * zz + tk)) = _) (by omega) (by omega)
                refine v_istore (lv' := [(0, .ref (ad 68)), (1, .int z), (2, .int y4), (3, .int x19), (4, .int y23), (5, .int y24), (6, .int x38)]) C [1, 2, 3, 4, 5, 6, 0] dX9_find_203 (by decide) rfl ?_
                refine v_iload C 6 dX9_find_205 rfl ?_
                refine b_if_lt C 259 dX9_find_207 (by decide) hx38 (fun c39 => ?_) (fun c39 => ?_)
                · obtain ⟨x40, ex40⟩ : ∃ y : Int32, y = y24 + 1 := ⟨_, rfl⟩
                  have hx40 : x40.toInt = ((i1 : Int) + 1) := by rw [ex40]; exact ti_add hy24 (show (1 : Int32).toInt = 1 by decide) (by omega) (by omega)
                  refine v_iinc (v := x40) (lv' := [(0, .ref (ad 68)), (1, .int z), (2, .int y4), (3, .int x19), (4, .int y23), (5, .int x40), (6, .int x38)]) C 5 [1, 2, 3, 4, 5, 0, 6] dX9_find_259 rfl (ex40.symm) (by decide) rfl ?_
                  refine v_goto C 180 dX9_find_262 (by decide) ?_
                  refine v_sub (lv' := [(0, .ref (ad 68)), (1, .int z), (2, .int y4), (3, .int x19), (4, .int y23), (5, .int x40)]) [0, 1, 2, 3, 4, 5] rfl ?_
                  exact ih32 tk y23 (i1 + 1) x40 E25 sf1 sp1 (show Int32.toInt y23 = ((tk : Nat) : Int) by have := hy23; omega) (show Int32.toInt x40 = ((i1 + 1 : Nat) : Int) by have := hx40; omega) hE25_80 hE25_81 (fun j g0 g1 => (hfr26 j g0 g1)) (by omega) (by omega) (hq29) (by rw [List.take_add_one, hgi]; show ZR _ _ _ (TKl (fv zz).toInt ((rgL (WZ ic md rf rto ron rat zz R) (BZ rbe zz) (cntT (tdz rtd zz) (im 18).toInt R)).take i1 ++ [((sw1 i1).toInt, (so1 i1).toInt)])); rw [TK_app]; exact ZR_leave hq30 (by omega)) (by omega)
                · refine v_iload C 4 dX9_find_210 rfl ?_
                  refine b_if_eq C 229 dX9_find_212 (by decide) hy23 (fun c41 => ?_) (fun c41 => ?_)
                  · obtain ⟨x42, ex42⟩ : ∃ y : Int32, y = y23 + 1 := ⟨_, rfl⟩
                    have hx42 : x42.toInt = ((tk : Int) + 1) := by rw [ex42]; exact ti_add hy23 (show (1 : Int32).toInt = 1 by decide) (by omega) (by omega)
                    refine v_iinc (v := x42) (lv' := [(0, .ref (ad 68)), (1, .int z), (2, .int y4), (3, .int x19), (4, .int x42), (5, .int y24), (6, .int x38)]) C 4 [1, 2, 3, 4, 0, 5, 6] dX9_find_229 rfl (ex42.symm) (by decide) rfl ?_
                    refine v_aload_n C 0 dX9_find_232 rfl rfl ?_
                    refine v_getr C 68 dX9_find_233 fX9_61 (by omega) hE25_68 rfl rfl ?_
                    refine v_iload_n C 3 dX9_find_236 rfl rfl ?_
                    refine v_iload C 4 dX9_find_237 rfl ?_
                    refine v_iadd C dX9_find_239 ?_
                    refine v_top (fun x43 ex43 => ?_)
                    have hx43 : x43.toInt = ((801 * (zz : Int)) + ((tk : Int) + 1)) := by rw [ex43]; exact ti_add hx19 hx42 (by omega) (by omega)
                    refine v_iload C 6 dX9_find_240 rfl ?_
                    refine v_ast C 80 dX9_find_242 (by omega) hE25_80 (ti_in hx43 (by omega) (by omega)) (fun E44 hE44_80 oE44 => ?_)
                    rw [ti_cl hx43, show Int.toNat ((801 * (zz : Int)) + ((tk : Int) + 1)) = 801 * zz + (tk + 1) by omega] at hE44_80
                    have hE44_68 := (oE44 68 (by decide)).trans hE25_68
                    have hE44_69 := (oE44 69 (by decide)).trans hE25_69
                    have hE44_70 := (oE44 70 (by decide)).trans hE25_70
                    have hE44_71 := (oE44 71 (by decide)).trans hE25_71
                    have hE44_72 := (oE44 72 (by decide)).trans hE25_72
                    have hE44_73 := (oE44 73 (by decide)).trans hE25_73
                    have hE44_74 := (oE44 74 (by decide)).trans hE25_74
                    have hE44_75 := (oE44 75 (by decide)).trans hE25_75
                    have hE44_76 := (oE44 76 (by decide)).trans hE25_76
                    have hE44_77 := (oE44 77 (by decide)).trans hE25_77
                    have hE44_78 := (oE44 78 (by decide)).trans hE25_78
                    have hE44_81 := (oE44 81 (by decide)).trans hE25_81
                    have hE44_82 := (oE44 82 (by decide)).trans hE25_82
                    have hE44_83 := (oE44 83 (by decide)).trans hE25_83
                    have hE44_84 := (oE44 84 (by decide)).trans hE25_84
                    have hE44_79 := (oE44 79 (by decide)).trans hE25_79
                    refine v_aload_n C 0 dX9_find_243 rfl rfl ?_
                    refine v_getr C 68 dX9_find_244 fX9_64 (by omega) hE44_68 rfl rfl ?_
                    refine v_iload_n C 3 dX9_find_247 rfl rfl ?_
                    refine v_iload C 4 dX9_find_248 rfl ?_
                    refine v_iadd C dX9_find_250 ?_
                    refine v_top (fun x45 ex45 => ?_)
                    have hx45 : x45.toInt = ((801 * (zz : Int)) + ((tk : Int) + 1)) := by rw [ex45]; exact ti_add hx19 hx42 (by omega) (by omega)
                    refine v_aload_n C 0 dX9_find_251 rfl rfl ?_
                    refine v_getr C 68 dX9_find_252 fX9_73 (by omega) hE44_68 rfl rfl ?_
                    refine v_iload C 5 dX9_find_255 rfl ?_
                    refine v_ald (v := so1 i1) C 84 dX9_find_257 (by omega) hE44_84 (ti_in hy24 (by omega) (by omega)) (by rw [ti_cl hy24, show Int.toNat (i1 : Int) = i1 by omega]) ?_
                    refine v_ast C 81 dX9_find_258 (by omega) hE44_81 (ti_in hx45 (by omega) (by omega)) (fun E46 hE46_81 oE46 => ?_)
                    rw [ti_cl hx45, show Int.toNat ((801 * (zz : Int)) + ((tk : Int) + 1)) = 801 * zz + (tk + 1) by omega] at hE46_81
                    have hE46_68 := (oE46 68 (by decide)).trans hE44_68
                    have hE46_69 := (oE46 69 (by decide)).trans hE44_69
                    have hE46_70 := (oE46 70 (by decide)).trans hE44_70
                    have hE46_71 := (oE46 71 (by decide)).trans hE44_71
                    have hE46_72 := (oE46 72 (by decide)).trans hE44_72
                    have hE46_73 := (oE46 73 (by decide)).trans hE44_73
                    have hE46_74 := (oE46 74 (by decide)).trans hE44_74
                    have hE46_75 := (oE46 75 (by decide)).trans hE44_75
                    have hE46_76 := (oE46 76 (by decide)).trans hE44_76
                    have hE46_77 := (oE46 77 (by decide)).trans hE44_77
                    have hE46_78 := (oE46 78 (by decide)).trans hE44_78
                    have hE46_80 := (oE46 80 (by decide)).trans hE44_80
                    have hE46_82 := (oE46 82 (by decide)).trans hE44_82
                    have hE46_83 := (oE46 83 (by decide)).trans hE44_83
                    have hE46_84 := (oE46 84 (by decide)).trans hE44_84
                    have hE46_79 := (oE46 79 (by decide)).trans hE44_79
                    obtain ⟨x47, ex47⟩ : ∃ y : Int32, y = y24 + 1 := ⟨_, rfl⟩
                    have hx47 : x47.toInt = ((i1 : Int) + 1) := by rw [ex47]; exact ti_add hy24 (show (1 : Int32).toInt = 1 by decide) (by omega) (by omega)
                    refine v_iinc (v := x47) (lv' := [(0, .ref (ad 68)), (1, .int z), (2, .int y4), (3, .int x19), (4, .int x42), (5, .int x47), (6, .int x38)]) C 5 [1, 2, 3, 4, 5, 0, 6] dX9_find_259 rfl (ex47.symm) (by decide) rfl ?_
                    refine v_goto C 180 dX9_find_262 (by decide) ?_
                    refine v_sub (lv' := [(0, .ref (ad 68)), (1, .int z), (2, .int y4), (3, .int x19), (4, .int x42), (5, .int x47)]) [0, 1, 2, 3, 4, 5] rfl ?_
                    exact ih32 (tk + 1) x42 (i1 + 1) x47 E46 (upd sf1 (801 * zz + (tk + 1)) x38) (upd sp1 (801 * zz + (tk + 1)) (so1 i1)) (show Int32.toInt x42 = ((tk + 1 : Nat) : Int) by have := hx42; omega) (show Int32.toInt x47 = ((i1 + 1 : Nat) : Int) by have := hx47; omega) hE46_80 hE46_81 (fun j g0 g1 => ((oE46 j g1).trans ((oE44 j g0).trans (hfr26 j g0 g1)))) (by omega) (by omega) (fun q hq => ⟨(upd_ne (by omega)).trans (hq29 q hq).1, (upd_ne (by omega)).trans (hq29 q hq).2⟩) (by rw [List.take_add_one, hgi]; show ZR _ _ _ (TKl (fv zz).toInt ((rgL (WZ ic md rf rto ron rat zz R) (BZ rbe zz) (cntT (tdz rtd zz) (im 18).toInt R)).take i1 ++ [((sw1 i1).toInt, (so1 i1).toInt)])); rw [TK_app]; rw [upd_sh, upd_sh]; exact ZR_take (w := sw1 i1) (z := ((tk + 1 : Nat) : Int)) hq30 (by rw [hx38, hSo]) (by omega) (by omega)) (by omega)
                  · refine v_iload C 6 dX9_find_215 rfl ?_
                    refine v_aload_n C 0 dX9_find_217 rfl rfl ?_
                    refine v_getr C 68 dX9_find_218 fX9_61 (by omega) hE25_68 rfl rfl ?_
                    refine v_iload_n C 3 dX9_find_221 rfl rfl ?_
                    refine v_iload C 4 dX9_find_222 rfl ?_
                    refine v_iadd C dX9_find_224 ?_
                    refine v_top (fun x48 ex48 => ?_)
                    have hx48 : x48.toInt = ((801 * (zz : Int)) + (tk : Int)) := by rw [ex48]; exact ti_add hx19 hy23 (by omega) (by omega)
                    refine v_ald (v := sf1 (801 * zz + tk)) C 80 dX9_find_225 (by omega) hE25_80 (ti_in hx48 (by omega) (by omega)) (by rw [ti_cl hx48, show Int.toNat ((801 * (zz : Int)) + (tk : Int)) = 801 * zz + tk by omega]) ?_
                    refine b_icmp_le C 259 dX9_find_226 (by decide) hx38 (rfl : Int32.toInt (sf1 (801 * zz + tk)) = _) (fun c49 => ?_) (fun c49 => ?_)
                    · obtain ⟨x50, ex50⟩ : ∃ y : Int32, y = y24 + 1 := ⟨_, rfl⟩
                      have hx50 : x50.toInt = ((i1 : Int) + 1) := by rw [ex50]; exact ti_add hy24 (show (1 : Int32).toInt = 1 by decide) (by omega) (by omega)
                      refine v_iinc (v := x50) (lv' := [(0, .ref (ad 68)), (1, .int z), (2, .int y4), (3, .int x19), (4, .int y23), (5, .int x50), (6, .int x38)]) C 5 [1, 2, 3, 4, 5, 0, 6] dX9_find_259 rfl (ex50.symm) (by decide) rfl ?_
                      refine v_goto C 180 dX9_find_262 (by decide) ?_
                      refine v_sub (lv' := [(0, .ref (ad 68)), (1, .int z), (2, .int y4), (3, .int x19), (4, .int y23), (5, .int x50)]) [0, 1, 2, 3, 4, 5] rfl ?_
                      exact ih32 tk y23 (i1 + 1) x50 E25 sf1 sp1 (show Int32.toInt y23 = ((tk : Nat) : Int) by have := hy23; omega) (show Int32.toInt x50 = ((i1 + 1 : Nat) : Int) by have := hx50; omega) hE25_80 hE25_81 (fun j g0 g1 => (hfr26 j g0 g1)) (by omega) (by omega) (hq29) (by rw [List.take_add_one, hgi]; show ZR _ _ _ (TKl (fv zz).toInt ((rgL (WZ ic md rf rto ron rat zz R) (BZ rbe zz) (cntT (tdz rtd zz) (im 18).toInt R)).take i1 ++ [((sw1 i1).toInt, (so1 i1).toInt)])); rw [TK_app]; exact ZR_leave hq30 (by omega)) (by omega)
                    · obtain ⟨x51, ex51⟩ : ∃ y : Int32, y = y23 + 1 := ⟨_, rfl⟩
                      have hx51 : x51.toInt = ((tk : Int) + 1) := by rw [ex51]; exact ti_add hy23 (show (1 : Int32).toInt = 1 by decide) (by omega) (by omega)
                      refine v_iinc (v := x51) (lv' := [(0, .ref (ad 68)), (1, .int z), (2, .int y4), (3, .int x19), (4, .int x51), (5, .int y24), (6, .int x38)]) C 4 [1, 2, 3, 4, 0, 5, 6] dX9_find_229 rfl (ex51.symm) (by decide) rfl ?_
                      refine v_aload_n C 0 dX9_find_232 rfl rfl ?_
                      refine v_getr C 68 dX9_find_233 fX9_61 (by omega) hE25_68 rfl rfl ?_
                      refine v_iload_n C 3 dX9_find_236 rfl rfl ?_
                      refine v_iload C 4 dX9_find_237 rfl ?_
                      refine v_iadd C dX9_find_239 ?_
                      refine v_top (fun x52 ex52 => ?_)
                      have hx52 : x52.toInt = ((801 * (zz : Int)) + ((tk : Int) + 1)) := by rw [ex52]; exact ti_add hx19 hx51 (by omega) (by omega)
                      refine v_iload C 6 dX9_find_240 rfl ?_
                      refine v_ast C 80 dX9_find_242 (by omega) hE25_80 (ti_in hx52 (by omega) (by omega)) (fun E53 hE53_80 oE53 => ?_)
                      rw [ti_cl hx52, show Int.toNat ((801 * (zz : Int)) + ((tk : Int) + 1)) = 801 * zz + (tk + 1) by omega] at hE53_80
                      have hE53_68 := (oE53 68 (by decide)).trans hE25_68
                      have hE53_69 := (oE53 69 (by decide)).trans hE25_69
                      have hE53_70 := (oE53 70 (by decide)).trans hE25_70
                      have hE53_71 := (oE53 71 (by decide)).trans hE25_71
                      have hE53_72 := (oE53 72 (by decide)).trans hE25_72
                      have hE53_73 := (oE53 73 (by decide)).trans hE25_73
                      have hE53_74 := (oE53 74 (by decide)).trans hE25_74
                      have hE53_75 := (oE53 75 (by decide)).trans hE25_75
                      have hE53_76 := (oE53 76 (by decide)).trans hE25_76
                      have hE53_77 := (oE53 77 (by decide)).trans hE25_77
                      have hE53_78 := (oE53 78 (by decide)).trans hE25_78
                      have hE53_81 := (oE53 81 (by decide)).trans hE25_81
                      have hE53_82 := (oE53 82 (by decide)).trans hE25_82
                      have hE53_83 := (oE53 83 (by decide)).trans hE25_83
                      have hE53_84 := (oE53 84 (by decide)).trans hE25_84
                      have hE53_79 := (oE53 79 (by decide)).trans hE25_79
                      refine v_aload_n C 0 dX9_find_243 rfl rfl ?_
                      refine v_getr C 68 dX9_find_244 fX9_64 (by omega) hE53_68 rfl rfl ?_
                      refine v_iload_n C 3 dX9_find_247 rfl rfl ?_
                      refine v_iload C 4 dX9_find_248 rfl ?_
                      refine v_iadd C dX9_find_250 ?_
                      refine v_top (fun x54 ex54 => ?_)
                      have hx54 : x54.toInt = ((801 * (zz : Int)) + ((tk : Int) + 1)) := by rw [ex54]; exact ti_add hx19 hx51 (by omega) (by omega)
                      refine v_aload_n C 0 dX9_find_251 rfl rfl ?_
                      refine v_getr C 68 dX9_find_252 fX9_73 (by omega) hE53_68 rfl rfl ?_
                      refine v_iload C 5 dX9_find_255 rfl ?_
                      refine v_ald (v := so1 i1) C 84 dX9_find_257 (by omega) hE53_84 (ti_in hy24 (by omega) (by omega)) (by rw [ti_cl hy24, show Int.toNat (i1 : Int) = i1 by omega]) ?_
                      refine v_ast C 81 dX9_find_258 (by omega) hE53_81 (ti_in hx54 (by omega) (by omega)) (fun E55 hE55_81 oE55 => ?_)
                      rw [ti_cl hx54, show Int.toNat ((801 * (zz : Int)) + ((tk : Int) + 1)) = 801 * zz + (tk + 1) by omega] at hE55_81
                      have hE55_68 := (oE55 68 (by decide)).trans hE53_68
                      have hE55_69 := (oE55 69 (by decide)).trans hE53_69
                      have hE55_70 := (oE55 70 (by decide)).trans hE53_70
                      have hE55_71 := (oE55 71 (by decide)).trans hE53_71
                      have hE55_72 := (oE55 72 (by decide)).trans hE53_72
                      have hE55_73 := (oE55 73 (by decide)).trans hE53_73
                      have hE55_74 := (oE55 74 (by decide)).trans hE53_74
                      have hE55_75 := (oE55 75 (by decide)).trans hE53_75
                      have hE55_76 := (oE55 76 (by decide)).trans hE53_76
                      have hE55_77 := (oE55 77 (by decide)).trans hE53_77
                      have hE55_78 := (oE55 78 (by decide)).trans hE53_78
                      have hE55_80 := (oE55 80 (by decide)).trans hE53_80
                      have hE55_82 := (oE55 82 (by decide)).trans hE53_82
                      have hE55_83 := (oE55 83 (by decide)).trans hE53_83
                      have hE55_84 := (oE55 84 (by decide)).trans hE53_84
                      have hE55_79 := (oE55 79 (by decide)).trans hE53_79
                      obtain ⟨x56, ex56⟩ : ∃ y : Int32, y = y24 + 1 := ⟨_, rfl⟩
                      have hx56 : x56.toInt = ((i1 : Int) + 1) := by rw [ex56]; exact ti_add hy24 (show (1 : Int32).toInt = 1 by decide) (by omega) (by omega)
                      refine v_iinc (v := x56) (lv' := [(0, .ref (ad 68)), (1, .int z), (2, .int y4), (3, .int x19), (4, .int x51), (5, .int x56), (6, .int x38)]) C 5 [1, 2, 3, 4, 5, 0, 6] dX9_find_259 rfl (ex56.symm) (by decide) rfl ?_
                      refine v_goto C 180 dX9_find_262 (by decide) ?_
                      refine v_sub (lv' := [(0, .ref (ad 68)), (1, .int z), (2, .int y4), (3, .int x19), (4, .int x51), (5, .int x56)]) [0, 1, 2, 3, 4, 5] rfl ?_
                      exact ih32 (tk + 1) x51 (i1 + 1) x56 E55 (upd sf1 (801 * zz + (tk + 1)) x38) (upd sp1 (801 * zz + (tk + 1)) (so1 i1)) (show Int32.toInt x51 = ((tk + 1 : Nat) : Int) by have := hx51; omega) (show Int32.toInt x56 = ((i1 + 1 : Nat) : Int) by have := hx56; omega) hE55_80 hE55_81 (fun j g0 g1 => ((oE55 j g1).trans ((oE53 j g0).trans (hfr26 j g0 g1)))) (by omega) (by omega) (fun q hq => ⟨(upd_ne (by omega)).trans (hq29 q hq).1, (upd_ne (by omega)).trans (hq29 q hq).2⟩) (by rw [List.take_add_one, hgi]; show ZR _ _ _ (TKl (fv zz).toInt ((rgL (WZ ic md rf rto ron rat zz R) (BZ rbe zz) (cntT (tdz rtd zz) (im 18).toInt R)).take i1 ++ [((sw1 i1).toInt, (so1 i1).toInt)])); rw [TK_app]; rw [upd_sh, upd_sh]; exact ZR_take (w := sw1 i1) (z := ((tk + 1 : Nat) : Int)) hq30 (by rw [hx38, hSo]) (by omega) (by omega)) (by omega)
          exact LP22 100000 0 0 0 0 E21 (upd sf (801 * zz) 0) (upd sp (801 * zz) (fv zz)) (show Int32.toInt 0 = ((0 : Nat) : Int) by have := (show (0 : Int32).toInt = 0 by decide); omega) (show Int32.toInt 0 = ((0 : Nat) : Int) by have := (show (0 : Int32).toInt = 0 by decide); omega) hE21_80 hE21_81 (fun j _ _ => rfl) (by omega) (by omega) (fun q hq => ⟨upd_ne (by omega), upd_ne (by omega)⟩) (by rw [List.take_zero]; exact ZR_0 rfl (by show (upd sf (801 * zz) 0 (801 * zz + 0)).toInt = 0; rw [Nat.add_zero, upd_same]; decide) (by show (upd sp (801 * zz) (fv zz) (801 * zz + 0)).toInt = _; rw [Nat.add_zero, upd_same])) (by omega)
        · have hv57 := RV_at (p := p1) hRV (by omega) (by omega)
          unfold RVp at hv57
          refine v_aload_n C 0 dX9_find_32 rfl rfl ?_
          refine v_getr C 68 dX9_find_33 fX9_32 (by omega) hE6_68 rfl rfl ?_
          refine v_iload_n C 3 dX9_find_36 rfl rfl ?_
          refine v_ald (v := rf p1) C 72 dX9_find_37 (by omega) hE6_72 (ti_in hy5 (by omega) (by omega)) (by rw [ti_cl hy5, show Int.toNat (p1 : Int) = p1 by omega]) ?_
          refine v_istore (lv' := [(0, .ref (ad 68)), (1, .int z), (2, .int y4), (3, .int y5), (4, .int (rf p1))]) C [1, 2, 3, 4, 0] dX9_find_38 (by decide) rfl ?_
          have LP58 : ∀ (t : Nat) (c2 : Nat) (y59 : Int32) (y1 : Nat) (y60 : Int32) (E61 : Nat → va_E) (im2 : Nat → Int32) (mf2 : Nat → Int32) (sw2 : Nat → Int32) (so2 : Nat → Int32), (y59.toInt = (c2 : Int)) → (y60.toInt = (y1 : Int)) → (E61 68 = ob 9 (rX9 ad) im2) → (E61 70 = aI G 1201 mf2) → (E61 83 = aI G 800 sw2) → (E61 84 = aI G 800 so2) → (∀ j, j ≠ 68 → j ≠ 70 → j ≠ 83 → j ≠ 84 → E61 j = E6 j) → ((rf p1).toInt ≤ (y1 : Int)) → (y1 ≤ 100) → (c2 ≤ 100 * (p1 - 8 * zz) + y1) → (MC0 ic md im im2 mf2) → (AR c2 sw2 so2 (if (rtd p1).toInt ≤ (im 18).toInt then rgY (WZ ic md rf rto ron rat zz R) ((BZ rbe zz) (p1 - 8 * zz)) (p1 - 8 * zz) (rgL (WZ ic md rf rto ron rat zz R) (BZ rbe zz) (p1 - 8 * zz)) y1 else rgL (WZ ic md rf rto ron rat zz R) (BZ rbe zz) (cntT (tdz rtd zz) (im 18).toInt (p1 - 8 * zz)))) → 100 - (y1 : Int) < (t : Int) → V X G A 7 (QV X G A (n) ad (fun E' => (fz zz = 1 ∧ E = E') ∨ (∃ (im1 : Nat → Int32) (c : Nat) (sf1 sp1 sw1 so1 : Nat → Int32) (z1 : Int32), (∀ q, q ≠ 7 → im1 q = im q) ∧ MCal G ad E' im1 ic md ∧ E' 79 = aZ G 5 (upd fz zz 1) ∧ E' 80 = aI G 4005 sf1 ∧ E' 81 = aI G 4005 sp1 ∧ E' 82 = aI G 5 (upd sc zz z1) ∧ z1.toInt = (c : Int) ∧ E' 83 = aI G 800 sw1 ∧ E' 84 = aI G 800 so1 ∧ (∀ q, (q < 801 * zz ∨ 801 * zz + 800 < q) → sf1 q = sf q ∧ sp1 q = sp q) ∧ c ≤ 800 ∧ ZR (c : Int) (fun i => sf1 (801 * zz + i)) (fun i => sp1 (801 * zz + i)) (TKl (fv zz).toInt (rgL (WZ ic md rf rto ron rat zz R) (BZ rbe zz) (cntT (tdz rtd zz) (im 18).toInt R))) ∧ ∀ j, j ≠ 68 → j ≠ 70 → j ≠ 79 → j ≠ 80 → j ≠ 81 → j ≠ 82 → j ≠ 83 → j ≠ 84 → E' j = E j))) (n) ad 0 0 E61 40 [(0, .ref (ad 68)), (1, .int z), (2, .int y59), (3, .int y5), (4, .int y60)] [] := by
            intro t68
            induction t68 with
            | zero => intro c2 y59 y1 y60 E61 im2 mf2 sw2 so2 hy59 hy60 hE61_68 hE61_70 hE61_83 hE61_84 hfr62 hq63 hq64 hq65 hq66 hq67 hm70; exfalso; omega
            | succ t68 ih69 =>
              intro c2 y59 y1 y60 E61 im2 mf2 sw2 so2 hy59 hy60 hE61_68 hE61_70 hE61_83 hE61_84 hfr62 hq63 hq64 hq65 hq66 hq67 hm70
              have hE61_69 := (hfr62 69 (by decide) (by decide) (by decide) (by decide)).trans hE6_69
              have hE61_71 := (hfr62 71 (by decide) (by decide) (by decide) (by decide)).trans hE6_71
              have hE61_72 := (hfr62 72 (by decide) (by decide) (by decide) (by decide)).trans hE6_72
              have hE61_73 := (hfr62 73 (by decide) (by decide) (by decide) (by decide)).trans hE6_73
              have hE61_74 := (hfr62 74 (by decide) (by decide) (by decide) (by decide)).trans hE6_74
              have hE61_75 := (hfr62 75 (by decide) (by decide) (by decide) (by decide)).trans hE6_75
              have hE61_76 := (hfr62 76 (by decide) (by decide) (by decide) (by decide)).trans hE6_76
              have hE61_77 := (hfr62 77 (by decide) (by decide) (by decide) (by decide)).trans hE6_77
              have hE61_78 := (hfr62 78 (by decide) (by decide) (by decide) (by decide)).trans hE6_78
              have hE61_80 := (hfr62 80 (by decide) (by decide) (by decide) (by decide)).trans hE6_80
              have hE61_81 := (hfr62 81 (by decide) (by decide) (by decide) (by decide)).trans hE6_81
              have hE61_82 := (hfr62 82 (by decide) (by decide) (by decide) (by decide)).trans hE6_82
              have hE61_79 := (hfr62 79 (by decide) (by decide) (by decide) (by decide)).trans hE6_79
              refine v_iload C 4 dX9_find_40 rfl ?_
              refine v_aload_n C 0 dX9_find_42 rfl rfl ?_
              refine v_getr C 68 dX9_find_43 fX9_35 (by omega) hE61_68 rfl rfl ?_
              refine v_iload_n C 3 dX9_find_46 rfl rfl ?_
              refine v_ald (v := rto p1) C 73 dX9_find_47 (by omega) hE61_73 (ti_in hy5 (by omega) (by omega)) (by rw [ti_cl hy5, show Int.toNat (p1 : Int) = p1 by omega]) ?_
              refine b_icmp_gt C 143 dX9_find_48 (by decide) hy60 (rfl : Int32.toInt (rto p1) = _) (fun c71 => ?_) (fun c71 => ?_)
              · obtain ⟨x72, ex72⟩ : ∃ y : Int32, y = y5 + 1 := ⟨_, rfl⟩
                have hx72 : x72.toInt = ((p1 : Int) + 1) := by rw [ex72]; exact ti_add hy5 (show (1 : Int32).toInt = 1 by decide) (by omega) (by omega)
                refine v_iinc (v := x72) (lv' := [(0, .ref (ad 68)), (1, .int z), (2, .int y59), (3, .int x72), (4, .int y60)]) C 3 [1, 2, 3, 0, 4] dX9_find_143 rfl (ex72.symm) (by decide) rfl ?_
                refine v_goto C 17 dX9_find_146 (by decide) ?_
                refine v_sub (lv' := [(0, .ref (ad 68)), (1, .int z), (2, .int y59), (3, .int x72)]) [0, 1, 2, 3] rfl ?_
                exact ih14 c2 y59 (p1 + 1) x72 E61 im2 mf2 sw2 so2 (show Int32.toInt y59 = ((c2 : Nat) : Int) by have := hy59; omega) (show Int32.toInt x72 = ((p1 + 1 : Nat) : Int) by have := hx72; omega) hE61_68 hE61_70 hE61_83 hE61_84 (fun j g0 g1 g2 g3 => ((hfr62 j g0 g1 g2 g3).trans (hfr7 j g0 g1 g2 g3))) (by omega) (by omega) (by omega) (hq66) (by rw [show p1 + 1 - 8 * zz = (p1 - 8 * zz) + 1 by omega]; by_cases ht : (rtd p1).toInt ≤ (im 18).toInt; (have hA2 := hq67; rw [if_pos ht] at hA2; rw [(cnt_yes (to := (tdz rtd zz)) hRVt (r := (p1 - 8 * zz)) (by omega) (by show (rtd (8 * zz + (p1 - 8 * zz))).toInt ≤ _; rw [show 8 * zz + (p1 - 8 * zz) = p1 by omega]; exact ht)).2]; show AR _ _ _ (rgY (WZ ic md rf rto ron rat zz R) ((BZ rbe zz) (p1 - 8 * zz)) (p1 - 8 * zz) (rgL (WZ ic md rf rto ron rat zz R) (BZ rbe zz) (p1 - 8 * zz)) 100); rw [show (100 : Nat) = y1 + (100 - y1) by omega, rgY_tail (100 - y1) (fun y h1 h2 => WZ_out (by omega) (by omega) (by omega))]; exact hA2); (have hA2 := hq67; rw [if_neg ht] at hA2; rw [cnt_no (to := (tdz rtd zz)) (by show ¬ (rtd (8 * zz + (p1 - 8 * zz))).toInt ≤ _; rw [show 8 * zz + (p1 - 8 * zz) = p1 by omega]; exact ht)]; exact hA2)) (by omega)
              · refine v_aload_n C 0 dX9_find_51 rfl rfl ?_
                refine v_getr C 68 dX9_find_52 fX9_47 (by omega) hE61_68 rfl rfl ?_
                refine v_iload_n C 3 dX9_find_55 rfl rfl ?_
                refine v_ald (v := rtd p1) C 77 dX9_find_56 (by omega) hE61_77 (ti_in hy5 (by omega) (by omega)) (by rw [ti_cl hy5, show Int.toNat (p1 : Int) = p1 by omega]) ?_
                refine v_aload_n C 0 dX9_find_57 rfl rfl ?_
                refine v_geti (v := im2 18) C 68 dX9_find_58 fX9_54 (by omega) hE61_68 rfl rfl ?_
                refine b_icmp_gt C 143 dX9_find_61 (by decide) (rfl : Int32.toInt (rtd p1) = _) (show (im2 18).toInt = (im 18).toInt by rw [hq66.2.1 18 (by decide)]) (fun c73 => ?_) (fun c73 => ?_)
                · obtain ⟨x74, ex74⟩ : ∃ y : Int32, y = y5 + 1 := ⟨_, rfl⟩
                  have hx74 : x74.toInt = ((p1 : Int) + 1) := by rw [ex74]; exact ti_add hy5 (show (1 : Int32).toInt = 1 by decide) (by omega) (by omega)
                  refine v_iinc (v := x74) (lv' := [(0, .ref (ad 68)), (1, .int z), (2, .int y59), (3, .int x74), (4, .int y60)]) C 3 [1, 2, 3, 0, 4] dX9_find_143 rfl (ex74.symm) (by decide) rfl ?_
                  refine v_goto C 17 dX9_find_146 (by decide) ?_
                  refine v_sub (lv' := [(0, .ref (ad 68)), (1, .int z), (2, .int y59), (3, .int x74)]) [0, 1, 2, 3] rfl ?_
                  exact ih14 c2 y59 (p1 + 1) x74 E61 im2 mf2 sw2 so2 (show Int32.toInt y59 = ((c2 : Nat) : Int) by have := hy59; omega) (show Int32.toInt x74 = ((p1 + 1 : Nat) : Int) by have := hx74; omega) hE61_68 hE61_70 hE61_83 hE61_84 (fun j g0 g1 g2 g3 => ((hfr62 j g0 g1 g2 g3).trans (hfr7 j g0 g1 g2 g3))) (by omega) (by omega) (by omega) (hq66) (by rw [show p1 + 1 - 8 * zz = (p1 - 8 * zz) + 1 by omega]; have hA2 := hq67; rw [if_neg (by omega)] at hA2; rw [cnt_no (to := (tdz rtd zz)) (by show ¬ (rtd (8 * zz + (p1 - 8 * zz))).toInt ≤ _; rw [show 8 * zz + (p1 - 8 * zz) = p1 by omega]; omega)]; exact hA2) (by omega)
                · have hv75 := RV_at (p := p1) hRV (by omega) (by omega)
                  unfold RVp at hv75
                  have hic7 : 2 ≤ (ic 7).toInt := hP.2.2.2.2.1.1
                  refine v_aload_n C 0 dX9_find_64 rfl rfl ?_
                  refine v_bipush (v := 12) C dX9_find_65 (by decide) ?_
                  refine v_iload C 4 dX9_find_67 rfl ?_
                  refine v_imul C dX9_find_69 ?_
                  refine v_top (fun x76 ex76 => ?_)
                  have hx76 : x76.toInt = (12 * (y1 : Int)) := by rw [ex76]; exact ti_mul (show (12 : Int32).toInt = 12 by decide) hy60 (by omega) (by omega)
                  refine v_aload_n C 0 dX9_find_70 rfl rfl ?_
                  refine v_getr C 68 dX9_find_71 fX9_38 (by omega) hE61_68 rfl rfl ?_
                  refine v_iload_n C 3 dX9_find_74 rfl rfl ?_
                  refine v_ald (v := ron p1) C 74 dX9_find_75 (by omega) hE61_74 (ti_in hy5 (by omega) (by omega)) (by rw [ti_cl hy5, show Int.toNat (p1 : Int) = p1 by omega]) ?_
                  refine v_sipush (v := 1000) C dX9_find_76 (by decide) ?_
                  refine v_idiv C dX9_find_79 (by decide) ?_
                  refine v_top (fun x77 ex77 => ?_)
                  have hx77 : x77.toInt = ((ron p1).toInt / 1000) := by rw [ex77]; exact ti_div (rfl : Int32.toInt (ron p1) = _) (show (1000 : Int32).toInt = 1000 by decide) (by omega) (by omega)
                  refine v_iadd C dX9_find_80 ?_
                  refine v_top (fun x78 ex78 => ?_)
                  have hx78 : x78.toInt = ((12 * (y1 : Int)) + ((ron p1).toInt / 1000)) := by rw [ex78]; exact ti_add hx76 hx77 (by omega) (by omega)
                  refine v_aload_n C 0 dX9_find_81 rfl rfl ?_
                  refine v_getr C 68 dX9_find_82 fX9_38 (by omega) hE61_68 rfl rfl ?_
                  refine v_iload_n C 3 dX9_find_85 rfl rfl ?_
                  refine v_ald (v := ron p1) C 74 dX9_find_86 (by omega) hE61_74 (ti_in hy5 (by omega) (by omega)) (by rw [ti_cl hy5, show Int.toNat (p1 : Int) = p1 by omega]) ?_
                  refine v_bipush (v := 10) C dX9_find_87 (by decide) ?_
                  refine v_idiv C dX9_find_89 (by decide) ?_
                  refine v_top (fun x79 ex79 => ?_)
                  have hx79 : x79.toInt = ((ron p1).toInt / 10) := by rw [ex79]; exact ti_div (rfl : Int32.toInt (ron p1) = _) (show (10 : Int32).toInt = 10 by decide) (by omega) (by omega)
                  refine v_bipush (v := 100) C dX9_find_90 (by decide) ?_
                  refine v_irem C dX9_find_92 (by decide) ?_
                  refine v_top (fun x80 ex80 => ?_)
                  have hx80 : x80.toInt = (((ron p1).toInt / 10) % 100) := by rw [ex80]; exact ti_rem hx79 (show (100 : Int32).toInt = 100 by decide) (by omega) (by omega)
                  refine v_aload_n C 0 dX9_find_93 rfl rfl ?_
                  refine v_getr C 68 dX9_find_94 fX9_38 (by omega) hE61_68 rfl rfl ?_
                  refine v_iload_n C 3 dX9_find_97 rfl rfl ?_
                  refine v_ald (v := ron p1) C 74 dX9_find_98 (by omega) hE61_74 (ti_in hy5 (by omega) (by omega)) (by rw [ti_cl hy5, show Int.toNat (p1 : Int) = p1 by omega]) ?_
                  refine v_bipush (v := 10) C dX9_find_99 (by decide) ?_
                  refine v_irem C dX9_find_101 (by decide) ?_
                  refine v_top (fun x81 ex81 => ?_)
                  have hx81 : x81.toInt = ((ron p1).toInt % 10) := by rw [ex81]; exact ti_rem (rfl : Int32.toInt (ron p1) = _) (show (10 : Int32).toInt = 10 by decide) (by omega) (by omega)
                  refine v_cVi C dX9_find_102 lX9_156 mX9_nthOf 68 (by omega) hE61_68 (by decide) rfl (d_nthOf l G n ad _ hn (show MCal G ad E61 im2 ic md from ⟨hq66.1, hP, hE61_68, hE61_69, hq66.2.2.1, mf2, hE61_70, hq66.2.2.2.1, hq66.2.2.2.2⟩) x78 x80 x81 (k := 12 * y1 + ((ron p1).toInt / 1000).toNat) (by have := hx78; omega) (by omega) (by have := hx80; omega) (by have := hx80; omega) (by have := hx81; omega) (by have := hx81; omega)) ⟨by decide, by decide⟩ rfl (Nat.le_of_ble_eq_true rfl) ⟨Nat.zero_le _, Nat.zero_le _⟩ (fun r82 E83 hq84 => ?_)
                  obtain ⟨hr85, im85, a185, a785, ⟨b185, b285, b385, b485, b585, mf85, b685, b785, b885⟩, hO85⟩ := hq84
                  rw [hx80, hx81] at hr85
                  have hmc85 : MC0 ic md im im85 mf85 := ⟨b185, fun q hq => (a185 q hq).trans (hq66.2.1 q hq), Or.inr a785, b785, b885⟩
                  have hNW85 := NW_d hP (k := 12 * y1 + ((ron p1).toInt / 1000).toNat) (by omega) (wd := (ron p1).toInt / 10 % 100) (n := (ron p1).toInt % 10) (by omega)
                  have hE83_69 := (hO85 69 (by decide) (by decide)).trans hE61_69
                  have hE83_71 := (hO85 71 (by decide) (by decide)).trans hE61_71
                  have hE83_72 := (hO85 72 (by decide) (by decide)).trans hE61_72
                  have hE83_73 := (hO85 73 (by decide) (by decide)).trans hE61_73
                  have hE83_74 := (hO85 74 (by decide) (by decide)).trans hE61_74
                  have hE83_75 := (hO85 75 (by decide) (by decide)).trans hE61_75
                  have hE83_76 := (hO85 76 (by decide) (by decide)).trans hE61_76
                  have hE83_77 := (hO85 77 (by decide) (by decide)).trans hE61_77
                  have hE83_78 := (hO85 78 (by decide) (by decide)).trans hE61_78
                  have hE83_80 := (hO85 80 (by decide) (by decide)).trans hE61_80
                  have hE83_81 := (hO85 81 (by decide) (by decide)).trans hE61_81
                  have hE83_82 := (hO85 82 (by decide) (by decide)).trans hE61_82
                  have hE83_83 := (hO85 83 (by decide) (by decide)).trans hE61_83
                  have hE83_84 := (hO85 84 (by decide) (by decide)).trans hE61_84
                  have hE83_79 := (hO85 79 (by decide) (by decide)).trans hE61_79
                  refine v_istore (lv' := [(0, .ref (ad 68)), (1, .int z), (2, .int y59), (3, .int y5), (4, .int y60), (5, .int r82)]) C [1, 2, 3, 4, 5, 0] dX9_find_105 (by decide) rfl ?_
                  refine v_iload C 5 dX9_find_107 rfl ?_
                  refine b_if_lt C 137 dX9_find_109 (by decide) hr85 (fun c86 => ?_) (fun c86 => ?_)
                  · obtain ⟨x87, ex87⟩ : ∃ y : Int32, y = y60 + 1 := ⟨_, rfl⟩
                    have hx87 : x87.toInt = ((y1 : Int) + 1) := by rw [ex87]; exact ti_add hy60 (show (1 : Int32).toInt = 1 by decide) (by omega) (by omega)
                    refine v_iinc (v := x87) (lv' := [(0, .ref (ad 68)), (1, .int z), (2, .int y59), (3, .int y5), (4, .int x87), (5, .int r82)]) C 4 [1, 2, 3, 4, 0, 5] dX9_find_137 rfl (ex87.symm) (by decide) rfl ?_
                    refine v_goto C 40 dX9_find_140 (by decide) ?_
                    refine v_sub (lv' := [(0, .ref (ad 68)), (1, .int z), (2, .int y59), (3, .int y5), (4, .int x87)]) [0, 1, 2, 3, 4] rfl ?_
                    exact ih69 c2 y59 (y1 + 1) x87 E83 im85 mf85 sw2 so2 (show Int32.toInt y59 = ((c2 : Nat) : Int) by have := hy59; omega) (show Int32.toInt x87 = ((y1 + 1 : Nat) : Int) by have := hx87; omega) b385 b685 hE83_83 hE83_84 (fun j g0 g1 g2 g3 => ((hO85 j g0 g1).trans (hfr62 j g0 g1 g2 g3))) (by omega) (by omega) (by omega) (hmc85) (by have hA2 := hq67; rw [if_pos (show (rtd p1).toInt ≤ (im 18).toInt by omega)] at hA2 ⊢; rw [rgY_k (by rw [WZ_at (by omega) (by omega) (by omega)]; unfold WMf; rw [if_neg (fun q => q.2.2 (by omega))])]; exact hA2) (by omega)
                  · refine v_aload_n C 0 dX9_find_112 rfl rfl ?_
                    refine v_iload_n C 2 dX9_find_113 rfl rfl ?_
                    refine v_sipush (v := 1440) C dX9_find_114 (by decide) ?_
                    refine v_iload C 5 dX9_find_117 rfl ?_
                    refine v_imul C dX9_find_119 ?_
                    refine v_top (fun x88 ex88 => ?_)
                    have hx88 : x88.toInt = (1440 * (NWf ic md (12 * y1 + ((ron p1).toInt / 1000).toNat) ((ron p1).toInt / 10 % 100) ((ron p1).toInt % 10))) := by rw [ex88]; exact ti_mul (show (1440 : Int32).toInt = 1440 by decide) hr85 (by omega) (by omega)
                    refine v_aload_n C 0 dX9_find_120 rfl rfl ?_
                    refine v_getr C 68 dX9_find_121 fX9_41 (by omega) b385 rfl rfl ?_
                    refine v_iload_n C 3 dX9_find_124 rfl rfl ?_
                    refine v_ald (v := rat p1) C 75 dX9_find_125 (by omega) hE83_75 (ti_in hy5 (by omega) (by omega)) (by rw [ti_cl hy5, show Int.toNat (p1 : Int) = p1 by omega]) ?_
                    refine v_iadd C dX9_find_126 ?_
                    refine v_top (fun x89 ex89 => ?_)
                    have hx89 : x89.toInt = ((1440 * (NWf ic md (12 * y1 + ((ron p1).toInt / 1000).toNat) ((ron p1).toInt / 10 % 100) ((ron p1).toInt % 10))) + (rat p1).toInt) := by rw [ex89]; exact ti_add hx88 (rfl : Int32.toInt (rat p1) = _) (by omega) (by omega)
                    refine v_aload_n C 0 dX9_find_127 rfl rfl ?_
                    refine v_getr C 68 dX9_find_128 fX9_44 (by omega) b385 rfl rfl ?_
                    refine v_iload_n C 3 dX9_find_131 rfl rfl ?_
                    refine v_ald (v := rbe p1) C 76 dX9_find_132 (by omega) hE83_76 (ti_in hy5 (by omega) (by omega)) (by rw [ti_cl hy5, show Int.toNat (p1 : Int) = p1 by omega]) ?_
                    have hA93 := hq67
                    rw [if_pos (show (rtd p1).toInt ≤ (im 18).toInt by omega)] at hA93
                    refine v_cVi C dX9_find_133 lX9_168 mX9_say 68 (by omega) b385 (by decide) rfl (y_say l G n ad _ hn b385 hE83_83 hE83_84 hA93 (rgY_srt (rg_srt _) _) (by omega) y59 x89 (rbe p1) hy59) ⟨by decide, by decide⟩ rfl (Nat.le_of_ble_eq_true rfl) ⟨Nat.zero_le _, Nat.zero_le _⟩ (fun r90 E91 hq92 => ?_)
                    obtain ⟨c93, sw93, so93, hr93, g393, g493, gA93, gc93, hO93⟩ := hq92
                    rw [hx89] at gA93
                    have hE91_68 := (hO93 68 (by decide) (by decide)).trans b385
                    have hE91_69 := (hO93 69 (by decide) (by decide)).trans hE83_69
                    have hE91_70 := (hO93 70 (by decide) (by decide)).trans b685
                    have hE91_71 := (hO93 71 (by decide) (by decide)).trans hE83_71
                    have hE91_72 := (hO93 72 (by decide) (by decide)).trans hE83_72
                    have hE91_73 := (hO93 73 (by decide) (by decide)).trans hE83_73
                    have hE91_74 := (hO93 74 (by decide) (by decide)).trans hE83_74
                    have hE91_75 := (hO93 75 (by decide) (by decide)).trans hE83_75
                    have hE91_76 := (hO93 76 (by decide) (by decide)).trans hE83_76
                    have hE91_77 := (hO93 77 (by decide) (by decide)).trans hE83_77
                    have hE91_78 := (hO93 78 (by decide) (by decide)).trans hE83_78
                    have hE91_80 := (hO93 80 (by decide) (by decide)).trans hE83_80
                    have hE91_81 := (hO93 81 (by decide) (by decide)).trans hE83_81
                    have hE91_82 := (hO93 82 (by decide) (by decide)).trans hE83_82
                    have hE91_79 := (hO93 79 (by decide) (by decide)).trans hE83_79
                    refine v_istore_n (lv' := [(0, .ref (ad 68)), (1, .int z), (2, .int r90), (3, .int y5), (4, .int y60), (5, .int r82)]) C [1, 2, 0, 3, 4, 5] dX9_find_136 rfl (by decide) rfl ?_
                    obtain ⟨x94, ex94⟩ : ∃ y : Int32, y = y60 + 1 := ⟨_, rfl⟩
                    have hx94 : x94.toInt = ((y1 : Int) + 1) := by rw [ex94]; exact ti_add hy60 (show (1 : Int32).toInt = 1 by decide) (by omega) (by omega)
                    refine v_iinc (v := x94) (lv' := [(0, .ref (ad 68)), (1, .int z), (2, .int r90), (3, .int y5), (4, .int x94), (5, .int r82)]) C 4 [1, 2, 3, 4, 0, 5] dX9_find_137 rfl (ex94.symm) (by decide) rfl ?_
                    refine v_goto C 40 dX9_find_140 (by decide) ?_
                    refine v_sub (lv' := [(0, .ref (ad 68)), (1, .int z), (2, .int r90), (3, .int y5), (4, .int x94)]) [0, 1, 2, 3, 4] rfl ?_
                    exact ih69 c93 r90 (y1 + 1) x94 E91 im85 mf85 sw93 so93 (show Int32.toInt r90 = ((c93 : Nat) : Int) by have := hr93; omega) (show Int32.toInt x94 = ((y1 + 1 : Nat) : Int) by have := hx94; omega) hE91_68 hE91_70 g393 g493 (fun j g0 g1 g2 g3 => ((hO93 j g2 g3).trans ((hO85 j g0 g1).trans (hfr62 j g0 g1 g2 g3)))) (by omega) (by omega) (by omega) (hmc85) (by rw [if_pos (show (rtd p1).toInt ≤ (im 18).toInt by omega)]; exact AR_rgY gA93 (by rw [WZ_at (by omega) (by omega) (by omega)]; unfold WMf; rw [if_pos ⟨by omega, by omega, by omega⟩]) (by omega) (by show (rbe (8 * zz + (p1 - 8 * zz))).toInt = _; rw [show 8 * zz + (p1 - 8 * zz) = p1 by omega])) (by omega)
          exact LP58 100000 c1 y4 ((rf p1).toInt.toNat) (rf p1) E6 im1 mf1 sw1 so1 (show Int32.toInt y4 = ((c1 : Nat) : Int) by have := hy4; omega) (show Int32.toInt (rf p1) = (((rf p1).toInt.toNat : Nat) : Int) by omega) hE6_68 hE6_70 hE6_83 hE6_84 (fun j _ _ _ _ => rfl) (by omega) (by omega) (by omega) (hq11) (by by_cases ht : (rtd p1).toInt ≤ (im 18).toInt; (rw [if_pos ht, rgY_skip _ (fun y hy => WZ_out (by omega) (by omega) (by omega))]; have hA2 := hq12; rw [(cnt_yes (to := (tdz rtd zz)) hRVt (r := (p1 - 8 * zz)) (by omega) (by show (rtd (8 * zz + (p1 - 8 * zz))).toInt ≤ _; rw [show 8 * zz + (p1 - 8 * zz) = p1 by omega]; exact ht)).1] at hA2; exact hA2); (rw [if_neg ht]; exact hq12)) (by omega)
    exact LP3 100000 0 0 (8 * zz) x2 E im mf sw so (show Int32.toInt 0 = ((0 : Nat) : Int) by have := (show (0 : Int32).toInt = 0 by decide); omega) (show Int32.toInt x2 = ((8 * zz : Nat) : Int) by have := hx2; omega) h68 h70 h83 h84 (fun j _ _ _ _ => rfl) (by omega) (by omega) (by omega) (⟨hic, fun _ _ => rfl, h7, hm0, hmc0⟩) (by rw [show 8 * zz - 8 * zz = 0 by omega]; exact AR_0) (by omega)
  · exact v_vret C dX9_find_9 rfl (Or.inl ⟨fz1_of (hfz zz) (by omega), rfl⟩)

