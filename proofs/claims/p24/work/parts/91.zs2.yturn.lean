set_option maxRecDepth 20000 in
theorem y_firstFrom (l : Launch) (G : Gl) (n : Nat) (ad : Nat → Nat) (E : Nat → va_E) (hn : 98 ≤ n) {im ic md : Nat → Int32} (hW : MCal G ad E im ic md) {rf rto ron rat rbe rtd rm fv : Nat → Int32} (hR : ZMr G E rf rto ron rat rbe rtd rm fv) {k : Nat} {TT : Nat → TST} (hS : ZMs G E k TT) {zz : Nat} (hzz : zz < k) (hk5 : k ≤ 5) (hTT : ∀ z, z < k → TT z = TTz ic md rf rto ron rat rbe rtd rm fv (im 18).toInt z) (hV : ∀ z, z < k → RZv ic rf rto ron rat rbe rtd rm fv z) {T : TST} (hTe : TT zz = T) {c : Nat} (hcT : T.1 = c) (z : Int32) (w : Int32) (u9 : Int32) (hz : z.toInt = (zz : Int)) (hw : 0 ≤ w.toInt ∧ w.toInt ≤ 69400001) : CtI l G yX9_firstFrom cX9_firstFrom 8 .int 4 96 (n) ad E [.ref (ad 68), .int z, .int w, .int u9] (fun r E' => FQ G ad E E' im ic md k TT ∧ r.toInt = ffT T w.toInt u9.toInt (T.1 + 1)) := by
  refine CtI.of (by decide) (Nat.le_of_ble_eq_true rfl) (fun X A C => ?_)
  refine v_sub (lv' := [(0, .ref (ad 68)), (1, .int z), (2, .int w), (3, .int u9)]) [0, 1, 2, 3] rfl ?_
  obtain ⟨hic, hP, h68, h69, h7, mf, h70, hm0, hmc0⟩ := id hW
  obtain ⟨h71, h72, h73, h74, h75, h76, h77, h78⟩ := id hR
  obtain ⟨fz, sf, sp, sc, sw, so, h79, h80, h81, h82, h83, h84, hfz, hsb0, hfd⟩ := id hS
  have hV0 := hV zz hzz
  have hRn : (rm zz).toInt = ((rm zz).toInt.toNat : Int) := by have := hV0.1; omega
  have hR8n : (rm zz).toInt.toNat ≤ 8 := by have := hV0.1; omega
  have h8T : ∀ z, z < k → (TT z).1 ≤ 800 := fun z hz => by rw [hTT z hz]; exact (TTz_ok hP (hV z hz)).2
  have hok : okT 69300000 T := by rw [← hTe, hTT zz hzz]; exact (TTz_ok hP hV0).1
  have hc8 : c ≤ 800 := by have := h8T zz hzz; rw [hTe] at this; omega
  refine v_aload_n C 0 dX9_firstFrom_0 rfl rfl ?_
  refine v_iload_n C 1 dX9_firstFrom_1 rfl rfl ?_
  refine v_cVv C dX9_firstFrom_2 lX9_171 mX9_find 68 (by omega) h68 (by decide) rfl (y_find l G n ad _ hn hW h71 h72 h73 h74 h75 h76 h77 h78 h79 h80 h81 h82 h83 h84 hfz (zz := zz) (R := (rm zz).toInt.toNat) (by omega) hRn hR8n hV0.2.1 hV0.2.2 (LLz_bd hP hV0.2.1) z hz) ⟨by decide, by decide⟩ rfl (Nat.le_of_ble_eq_true rfl) ⟨Nat.zero_le _, Nat.zero_le _⟩ (fun E1 hq2 => ?_)
  obtain ⟨hFQ, sf1, sp1, sc1, g80, g81, g82, hZ1⟩ := find_post hzz hW h79 h80 h81 h82 h83 h84 hfz hsb0 hfd h8T (hTT zz hzz) hq2
  rw [← hTT zz hzz, hTe] at hZ1
  obtain ⟨im1, hi1, hW1, hS1, hO1⟩ := id hFQ
  have g68 := hW1.2.2.1
  have hsc : (sc1 zz).toInt = (c : Int) := by have := hZ1.1; omega
  refine v_iconst (v := 0) C dX9_firstFrom_5 (by decide) ?_
  refine v_istore (lv' := [(0, .ref (ad 68)), (1, .int z), (2, .int w), (3, .int u9), (4, .int 0)]) C [1, 2, 3, 4, 0] dX9_firstFrom_6 (by decide) rfl ?_
  have LP3 : ∀ (t : Nat) (j1 : Nat) (y4 : Int32) (E5 : Nat → va_E), (y4.toInt = (j1 : Int)) → (∀ j, E5 j = E1 j) → (j1 ≤ c + 1) → (ffT T w.toInt u9.toInt j1 = -1) → (c : Int) + 1 - (j1 : Int) < (t : Int) → V X G A 8 (QI X G A (n) ad (fun r E' => FQ G ad E E' im ic md k TT ∧ r.toInt = ffT T w.toInt u9.toInt (T.1 + 1))) (n) ad 0 0 E5 8 [(0, .ref (ad 68)), (1, .int z), (2, .int w), (3, .int u9), (4, .int y4)] [] := by
    intro t8
    induction t8 with
    | zero => intro j1 y4 E5 hy4 hfr6 hq7 hfj hm10; exfalso; omega
    | succ t8 ih9 =>
      intro j1 y4 E5 hy4 hfr6 hq7 hfj hm10
      have hE5_68 := (hfr6 68 ).trans g68
      have hE5_80 := (hfr6 80 ).trans g80
      have hE5_81 := (hfr6 81 ).trans g81
      have hE5_82 := (hfr6 82 ).trans g82
      refine v_iload C 4 dX9_firstFrom_8 rfl ?_
      refine v_aload_n C 0 dX9_firstFrom_10 rfl rfl ?_
      refine v_getr C 68 dX9_firstFrom_11 fX9_67 (by omega) hE5_68 rfl rfl ?_
      refine v_iload_n C 1 dX9_firstFrom_14 rfl rfl ?_
      refine v_ald (v := sc1 zz) C 82 dX9_firstFrom_15 (by omega) hE5_82 (ti_in hz (by omega) (by omega)) (by rw [ti_cl hz, show Int.toNat (zz : Int) = zz by omega]) ?_
      refine b_icmp_gt C 99 dX9_firstFrom_16 (by decide) hy4 hsc (fun c11 => ?_) (fun c11 => ?_)
      · refine v_iconst (v := (-1)) C dX9_firstFrom_99 (by decide) ?_
        have hEE : E5 = E1 := funext (fun j => hfr6 j)
        exact v_ret C dX9_firstFrom_100 rfl rfl ⟨by rw [hEE]; exact hFQ, (show (-1 : Int32).toInt = -1 by decide).trans (by rw [show T.1 + 1 = j1 by omega]; exact hfj.symm)⟩
      · have hsp := (show (sp1 (801 * zz + j1)).toInt = T.2.2 j1 from (hZ1.2 j1 (by omega)).2)
        have hsf := (show (sf1 (801 * zz + j1)).toInt = T.2.1 j1 from (hZ1.2 j1 (by omega)).1)
        have hob := hok.2.2.2 j1 (by omega)
        have hsb := hok.2.1 j1 (by omega)
        have hen := en_60 (T := T) (k := j1)
        have hen0 := en_0 hok (k := j1) (by omega)
        refine v_aload_n C 0 dX9_firstFrom_19 rfl rfl ?_
        refine v_getr C 68 dX9_firstFrom_20 fX9_64 (by omega) hE5_68 rfl rfl ?_
        refine v_sipush (v := 801) C dX9_firstFrom_23 (by decide) ?_
        refine v_iload_n C 1 dX9_firstFrom_26 rfl rfl ?_
        refine v_imul C dX9_firstFrom_27 ?_
        refine v_top (fun x12 ex12 => ?_)
        have hx12 : x12.toInt = (801 * (zz : Int)) := by rw [ex12]; exact ti_mul (show (801 : Int32).toInt = 801 by decide) hz (by omega) (by omega)
        refine v_iload C 4 dX9_firstFrom_28 rfl ?_
        refine v_iadd C dX9_firstFrom_30 ?_
        refine v_top (fun x13 ex13 => ?_)
        have hx13 : x13.toInt = ((801 * (zz : Int)) + (j1 : Int)) := by rw [ex13]; exact ti_add hx12 hy4 (by omega) (by omega)
        refine v_ald (v := sp1 (801 * zz + j1)) C 81 dX9_firstFrom_31 (by omega) hE5_81 (ti_in hx13 (by omega) (by omega)) (by rw [ti_cl hx13, show Int.toNat ((801 * (zz : Int)) + (j1 : Int)) = 801 * zz + j1 by omega]) ?_
        refine v_istore (lv' := [(0, .ref (ad 68)), (1, .int z), (2, .int w), (3, .int u9), (4, .int y4), (5, .int (sp1 (801 * zz + j1)))]) C [1, 2, 3, 4, 5, 0] dX9_firstFrom_32 (by decide) rfl ?_
        refine v_aload_n C 0 dX9_firstFrom_34 rfl rfl ?_
        refine v_getr C 68 dX9_firstFrom_35 fX9_61 (by omega) hE5_68 rfl rfl ?_
        refine v_sipush (v := 801) C dX9_firstFrom_38 (by decide) ?_
        refine v_iload_n C 1 dX9_firstFrom_41 rfl rfl ?_
        refine v_imul C dX9_firstFrom_42 ?_
        refine v_top (fun x14 ex14 => ?_)
        have hx14 : x14.toInt = (801 * (zz : Int)) := by rw [ex14]; exact ti_mul (show (801 : Int32).toInt = 801 by decide) hz (by omega) (by omega)
        refine v_iload C 4 dX9_firstFrom_43 rfl ?_
        refine v_iadd C dX9_firstFrom_45 ?_
        refine v_top (fun x15 ex15 => ?_)
        have hx15 : x15.toInt = ((801 * (zz : Int)) + (j1 : Int)) := by rw [ex15]; exact ti_add hx14 hy4 (by omega) (by omega)
        refine v_ald (v := sf1 (801 * zz + j1)) C 80 dX9_firstFrom_46 (by omega) hE5_80 (ti_in hx15 (by omega) (by omega)) (by rw [ti_cl hx15, show Int.toNat ((801 * (zz : Int)) + (j1 : Int)) = 801 * zz + j1 by omega]) ?_
        refine v_istore (lv' := [(0, .ref (ad 68)), (1, .int z), (2, .int w), (3, .int u9), (4, .int y4), (5, .int (sp1 (801 * zz + j1))), (6, .int (sf1 (801 * zz + j1)))]) C [1, 2, 3, 4, 5, 6, 0] dX9_firstFrom_47 (by decide) rfl ?_
        refine v_iload_n C 2 dX9_firstFrom_49 rfl rfl ?_
        refine v_iload C 5 dX9_firstFrom_50 rfl ?_
        refine v_isub C dX9_firstFrom_52 ?_
        refine v_top (fun x16 ex16 => ?_)
        have hx16 : x16.toInt = (w.toInt - (T.2.2 j1)) := by rw [ex16]; exact ti_sub (rfl : Int32.toInt w = _) hsp (by omega) (by omega)
        refine v_iload C 6 dX9_firstFrom_53 rfl ?_
        refine b_icmp_le C 65 dX9_firstFrom_55 (by decide) hx16 hsf (fun c17 => ?_) (fun c17 => ?_)
        · refine v_iload C 6 dX9_firstFrom_65 rfl ?_
          have hmx : (T.2.1 j1) = mxI (w.toInt - T.2.2 j1) (T.2.1 j1) := by unfold mxI; split <;> omega
          refine v_istore (lv' := [(0, .ref (ad 68)), (1, .int z), (2, .int w), (3, .int u9), (4, .int y4), (5, .int (sp1 (801 * zz + j1))), (6, .int (sf1 (801 * zz + j1))), (7, .int (sf1 (801 * zz + j1)))]) C [1, 2, 3, 4, 5, 6, 7, 0] dX9_firstFrom_67 (by decide) rfl ?_
          refine v_iload C 7 dX9_firstFrom_69 rfl ?_
          refine v_aload_n C 0 dX9_firstFrom_71 rfl rfl ?_
          refine v_iload_n C 1 dX9_firstFrom_72 rfl rfl ?_
          refine v_iload C 4 dX9_firstFrom_73 rfl ?_
          refine v_cVp C dX9_firstFrom_75 lX9_188 mX9_spanEnd 68 (by omega) hE5_68 (by decide) rfl (y_spanEnd l G n ad _ hn hE5_68 hE5_80 hE5_82 (by omega) hcT hc8 hZ1 hok z y4 hz hy4 (by omega)) ⟨by decide, by decide⟩ rfl (Nat.le_of_ble_eq_true rfl) ⟨Nat.zero_le _, Nat.zero_le _⟩ (fun r18 hp19 => ?_)
          refine b_icmp_gt C 93 dX9_firstFrom_78 (by decide) hsf hp19 (fun c20 => ?_) (fun c20 => ?_)
          · obtain ⟨x21, ex21⟩ : ∃ y : Int32, y = y4 + 1 := ⟨_, rfl⟩
            have hx21 : x21.toInt = ((j1 : Int) + 1) := by rw [ex21]; exact ti_add hy4 (show (1 : Int32).toInt = 1 by decide) (by omega) (by omega)
            refine v_iinc (v := x21) (lv' := [(0, .ref (ad 68)), (1, .int z), (2, .int w), (3, .int u9), (4, .int x21), (5, .int (sp1 (801 * zz + j1))), (6, .int (sf1 (801 * zz + j1))), (7, .int (sf1 (801 * zz + j1)))]) C 4 [1, 2, 3, 4, 0, 5, 6, 7] dX9_firstFrom_93 rfl (ex21.symm) (by decide) rfl ?_
            refine v_goto C 8 dX9_firstFrom_96 (by decide) ?_
            refine v_sub (lv' := [(0, .ref (ad 68)), (1, .int z), (2, .int w), (3, .int u9), (4, .int x21)]) [0, 1, 2, 3, 4] rfl ?_
            exact ih9 (j1 + 1) x21 E5 (show Int32.toInt x21 = ((j1 + 1 : Nat) : Int) by have := hx21; omega) (fun j => (hfr6 j )) (by omega) (ff_miss hfj hmx (by omega)) (by omega)
          · refine v_iload C 7 dX9_firstFrom_81 rfl ?_
            refine v_iload C 5 dX9_firstFrom_83 rfl ?_
            refine v_iadd C dX9_firstFrom_85 ?_
            refine v_top (fun x22 ex22 => ?_)
            have hx22 : x22.toInt = ((T.2.1 j1) + (T.2.2 j1)) := by rw [ex22]; exact ti_add hsf hsp (by omega) (by omega)
            refine v_iload_n C 3 dX9_firstFrom_86 rfl rfl ?_
            refine b_icmp_gt C 93 dX9_firstFrom_87 (by decide) hx22 (rfl : Int32.toInt u9 = _) (fun c23 => ?_) (fun c23 => ?_)
            · obtain ⟨x24, ex24⟩ : ∃ y : Int32, y = y4 + 1 := ⟨_, rfl⟩
              have hx24 : x24.toInt = ((j1 : Int) + 1) := by rw [ex24]; exact ti_add hy4 (show (1 : Int32).toInt = 1 by decide) (by omega) (by omega)
              refine v_iinc (v := x24) (lv' := [(0, .ref (ad 68)), (1, .int z), (2, .int w), (3, .int u9), (4, .int x24), (5, .int (sp1 (801 * zz + j1))), (6, .int (sf1 (801 * zz + j1))), (7, .int (sf1 (801 * zz + j1)))]) C 4 [1, 2, 3, 4, 0, 5, 6, 7] dX9_firstFrom_93 rfl (ex24.symm) (by decide) rfl ?_
              refine v_goto C 8 dX9_firstFrom_96 (by decide) ?_
              refine v_sub (lv' := [(0, .ref (ad 68)), (1, .int z), (2, .int w), (3, .int u9), (4, .int x24)]) [0, 1, 2, 3, 4] rfl ?_
              exact ih9 (j1 + 1) x24 E5 (show Int32.toInt x24 = ((j1 + 1 : Nat) : Int) by have := hx24; omega) (fun j => (hfr6 j )) (by omega) (ff_miss hfj hmx (by omega)) (by omega)
            · refine v_iload C 7 dX9_firstFrom_90 rfl ?_
              have hEE : E5 = E1 := funext (fun j => hfr6 j)
              exact v_ret C dX9_firstFrom_92 rfl rfl ⟨by rw [hEE]; exact hFQ, hsf.trans (ff_hit hfj hmx (by omega) (by omega) (by omega) (by omega)).symm⟩
        · refine v_iload_n C 2 dX9_firstFrom_58 rfl rfl ?_
          refine v_iload C 5 dX9_firstFrom_59 rfl ?_
          refine v_isub C dX9_firstFrom_61 ?_
          refine v_top (fun x25 ex25 => ?_)
          have hx25 : x25.toInt = (w.toInt - (T.2.2 j1)) := by rw [ex25]; exact ti_sub (rfl : Int32.toInt w = _) hsp (by omega) (by omega)
          refine v_goto C 67 dX9_firstFrom_62 (by decide) ?_
          have hmx : (w.toInt - (T.2.2 j1)) = mxI (w.toInt - T.2.2 j1) (T.2.1 j1) := by unfold mxI; split <;> omega
          refine v_istore (lv' := [(0, .ref (ad 68)), (1, .int z), (2, .int w), (3, .int u9), (4, .int y4), (5, .int (sp1 (801 * zz + j1))), (6, .int (sf1 (801 * zz + j1))), (7, .int x25)]) C [1, 2, 3, 4, 5, 6, 7, 0] dX9_firstFrom_67 (by decide) rfl ?_
          refine v_iload C 7 dX9_firstFrom_69 rfl ?_
          refine v_aload_n C 0 dX9_firstFrom_71 rfl rfl ?_
          refine v_iload_n C 1 dX9_firstFrom_72 rfl rfl ?_
          refine v_iload C 4 dX9_firstFrom_73 rfl ?_
          refine v_cVp C dX9_firstFrom_75 lX9_188 mX9_spanEnd 68 (by omega) hE5_68 (by decide) rfl (y_spanEnd l G n ad _ hn hE5_68 hE5_80 hE5_82 (by omega) hcT hc8 hZ1 hok z y4 hz hy4 (by omega)) ⟨by decide, by decide⟩ rfl (Nat.le_of_ble_eq_true rfl) ⟨Nat.zero_le _, Nat.zero_le _⟩ (fun r26 hp27 => ?_)
          refine b_icmp_gt C 93 dX9_firstFrom_78 (by decide) hx25 hp27 (fun c28 => ?_) (fun c28 => ?_)
          · obtain ⟨x29, ex29⟩ : ∃ y : Int32, y = y4 + 1 := ⟨_, rfl⟩
            have hx29 : x29.toInt = ((j1 : Int) + 1) := by rw [ex29]; exact ti_add hy4 (show (1 : Int32).toInt = 1 by decide) (by omega) (by omega)
            refine v_iinc (v := x29) (lv' := [(0, .ref (ad 68)), (1, .int z), (2, .int w), (3, .int u9), (4, .int x29), (5, .int (sp1 (801 * zz + j1))), (6, .int (sf1 (801 * zz + j1))), (7, .int x25)]) C 4 [1, 2, 3, 4, 0, 5, 6, 7] dX9_firstFrom_93 rfl (ex29.symm) (by decide) rfl ?_
            refine v_goto C 8 dX9_firstFrom_96 (by decide) ?_
            refine v_sub (lv' := [(0, .ref (ad 68)), (1, .int z), (2, .int w), (3, .int u9), (4, .int x29)]) [0, 1, 2, 3, 4] rfl ?_
            exact ih9 (j1 + 1) x29 E5 (show Int32.toInt x29 = ((j1 + 1 : Nat) : Int) by have := hx29; omega) (fun j => (hfr6 j )) (by omega) (ff_miss hfj hmx (by omega)) (by omega)
          · refine v_iload C 7 dX9_firstFrom_81 rfl ?_
            refine v_iload C 5 dX9_firstFrom_83 rfl ?_
            refine v_iadd C dX9_firstFrom_85 ?_
            refine v_top (fun x30 ex30 => ?_)
            have hx30 : x30.toInt = ((w.toInt - (T.2.2 j1)) + (T.2.2 j1)) := by rw [ex30]; exact ti_add hx25 hsp (by omega) (by omega)
            refine v_iload_n C 3 dX9_firstFrom_86 rfl rfl ?_
            refine b_icmp_gt C 93 dX9_firstFrom_87 (by decide) hx30 (rfl : Int32.toInt u9 = _) (fun c31 => ?_) (fun c31 => ?_)
            · obtain ⟨x32, ex32⟩ : ∃ y : Int32, y = y4 + 1 := ⟨_, rfl⟩
              have hx32 : x32.toInt = ((j1 : Int) + 1) := by rw [ex32]; exact ti_add hy4 (show (1 : Int32).toInt = 1 by decide) (by omega) (by omega)
              refine v_iinc (v := x32) (lv' := [(0, .ref (ad 68)), (1, .int z), (2, .int w), (3, .int u9), (4, .int x32), (5, .int (sp1 (801 * zz + j1))), (6, .int (sf1 (801 * zz + j1))), (7, .int x25)]) C 4 [1, 2, 3, 4, 0, 5, 6, 7] dX9_firstFrom_93 rfl (ex32.symm) (by decide) rfl ?_
              refine v_goto C 8 dX9_firstFrom_96 (by decide) ?_
              refine v_sub (lv' := [(0, .ref (ad 68)), (1, .int z), (2, .int w), (3, .int u9), (4, .int x32)]) [0, 1, 2, 3, 4] rfl ?_
              exact ih9 (j1 + 1) x32 E5 (show Int32.toInt x32 = ((j1 + 1 : Nat) : Int) by have := hx32; omega) (fun j => (hfr6 j )) (by omega) (ff_miss hfj hmx (by omega)) (by omega)
            · refine v_iload C 7 dX9_firstFrom_90 rfl ?_
              have hEE : E5 = E1 := funext (fun j => hfr6 j)
              exact v_ret C dX9_firstFrom_92 rfl rfl ⟨by rw [hEE]; exact hFQ, hx25.trans (ff_hit hfj hmx (by omega) (by omega) (by omega) (by omega)).symm⟩
  exact LP3 100000 0 0 E1 (show Int32.toInt 0 = ((0 : Nat) : Int) by have := (show (0 : Int32).toInt = 0 by decide); omega) (fun j => rfl) (by omega) (rfl) (by omega)

set_option maxRecDepth 20000 in
theorem y_lastAhead (l : Launch) (G : Gl) (n : Nat) (ad : Nat → Nat) (E : Nat → va_E) (hn : 98 ≤ n) {im ic md : Nat → Int32} (hW : MCal G ad E im ic md) {rf rto ron rat rbe rtd rm fv : Nat → Int32} (hR : ZMr G E rf rto ron rat rbe rtd rm fv) {k : Nat} {TT : Nat → TST} (hS : ZMs G E k TT) {zz : Nat} (hzz : zz < k) (hk5 : k ≤ 5) (hTT : ∀ z, z < k → TT z = TTz ic md rf rto ron rat rbe rtd rm fv (im 18).toInt z) (hV : ∀ z, z < k → RZv ic rf rto ron rat rbe rtd rm fv z) {T : TST} (hTe : TT zz = T) {c : Nat} (hcT : T.1 = c) (z : Int32) (w : Int32) (hz : z.toInt = (zz : Int)) (hw : 0 ≤ w.toInt ∧ w.toInt ≤ 69400001) : CtI l G yX9_lastAhead cX9_lastAhead 6 .int 4 96 (n) ad E [.ref (ad 68), .int z, .int w] (fun r E' => FQ G ad E E' im ic md k TT ∧ r.toInt = laT T w.toInt (T.1 + 1)) := by
  refine CtI.of (by decide) (Nat.le_of_ble_eq_true rfl) (fun X A C => ?_)
  refine v_sub (lv' := [(0, .ref (ad 68)), (1, .int z), (2, .int w)]) [0, 1, 2] rfl ?_
  obtain ⟨hic, hP, h68, h69, h7, mf, h70, hm0, hmc0⟩ := id hW
  obtain ⟨h71, h72, h73, h74, h75, h76, h77, h78⟩ := id hR
  obtain ⟨fz, sf, sp, sc, sw, so, h79, h80, h81, h82, h83, h84, hfz, hsb0, hfd⟩ := id hS
  have hV0 := hV zz hzz
  have hRn : (rm zz).toInt = ((rm zz).toInt.toNat : Int) := by have := hV0.1; omega
  have hR8n : (rm zz).toInt.toNat ≤ 8 := by have := hV0.1; omega
  have h8T : ∀ z, z < k → (TT z).1 ≤ 800 := fun z hz => by rw [hTT z hz]; exact (TTz_ok hP (hV z hz)).2
  have hok : okT 69300000 T := by rw [← hTe, hTT zz hzz]; exact (TTz_ok hP hV0).1
  have hc8 : c ≤ 800 := by have := h8T zz hzz; rw [hTe] at this; omega
  refine v_aload_n C 0 dX9_lastAhead_0 rfl rfl ?_
  refine v_iload_n C 1 dX9_lastAhead_1 rfl rfl ?_
  refine v_cVv C dX9_lastAhead_2 lX9_171 mX9_find 68 (by omega) h68 (by decide) rfl (y_find l G n ad _ hn hW h71 h72 h73 h74 h75 h76 h77 h78 h79 h80 h81 h82 h83 h84 hfz (zz := zz) (R := (rm zz).toInt.toNat) (by omega) hRn hR8n hV0.2.1 hV0.2.2 (LLz_bd hP hV0.2.1) z hz) ⟨by decide, by decide⟩ rfl (Nat.le_of_ble_eq_true rfl) ⟨Nat.zero_le _, Nat.zero_le _⟩ (fun E1 hq2 => ?_)
  obtain ⟨hFQ, sf1, sp1, sc1, g80, g81, g82, hZ1⟩ := find_post hzz hW h79 h80 h81 h82 h83 h84 hfz hsb0 hfd h8T (hTT zz hzz) hq2
  rw [← hTT zz hzz, hTe] at hZ1
  obtain ⟨im1, hi1, hW1, hS1, hO1⟩ := id hFQ
  have g68 := hW1.2.2.1
  have hsc : (sc1 zz).toInt = (c : Int) := by have := hZ1.1; omega
  refine v_aload_n C 0 dX9_lastAhead_5 rfl rfl ?_
  refine v_getr C 68 dX9_lastAhead_6 fX9_67 (by omega) g68 rfl rfl ?_
  refine v_iload_n C 1 dX9_lastAhead_9 rfl rfl ?_
  refine v_ald (v := sc1 zz) C 82 dX9_lastAhead_10 (by omega) g82 (ti_in hz (by omega) (by omega)) (by rw [ti_cl hz, show Int.toNat (zz : Int) = zz by omega]) ?_
  refine v_istore_n (lv' := [(0, .ref (ad 68)), (1, .int z), (2, .int w), (3, .int (sc1 zz))]) C [1, 2, 3, 0] dX9_lastAhead_11 rfl (by decide) rfl ?_
  have LP3 : ∀ (t : Nat) (d1 : Int) (y4 : Int32) (E5 : Nat → va_E), (y4.toInt = d1) → (∀ j, E5 j = E1 j) → (-1 ≤ d1) → (d1 ≤ (c : Int)) → (laT T w.toInt (T.1 + 1) = laT T w.toInt (d1 + 1).toNat) → d1 + 1 < (t : Int) → V X G A 6 (QI X G A (n) ad (fun r E' => FQ G ad E E' im ic md k TT ∧ r.toInt = laT T w.toInt (T.1 + 1))) (n) ad 0 0 E5 12 [(0, .ref (ad 68)), (1, .int z), (2, .int w), (3, .int y4)] [] := by
    intro t9
    induction t9 with
    | zero => intro d1 y4 E5 hy4 hfr6 hq7 hq8 hla hm11; exfalso; omega
    | succ t9 ih10 =>
      intro d1 y4 E5 hy4 hfr6 hq7 hq8 hla hm11
      have hE5_68 := (hfr6 68 ).trans g68
      have hE5_80 := (hfr6 80 ).trans g80
      have hE5_81 := (hfr6 81 ).trans g81
      have hE5_82 := (hfr6 82 ).trans g82
      refine v_iload_n C 3 dX9_lastAhead_12 rfl rfl ?_
      refine b_if_lt C 88 dX9_lastAhead_13 (by decide) hy4 (fun c12 => ?_) (fun c12 => ?_)
      · refine v_iconst (v := (-1)) C dX9_lastAhead_88 (by decide) ?_
        have hEE : E5 = E1 := funext (fun j => hfr6 j)
        exact v_ret C dX9_lastAhead_89 rfl rfl ⟨by rw [hEE]; exact hFQ, (show (-1 : Int32).toInt = -1 by decide).trans (by rw [hla, show (d1 + 1).toNat = 0 by omega]; rfl)⟩
      · obtain ⟨j1, rfl⟩ : ∃ j : Nat, d1 = (j : Int) := ⟨d1.toNat, by omega⟩
        have hsp := (show (sp1 (801 * zz + j1)).toInt = T.2.2 j1 from (hZ1.2 j1 (by omega)).2)
        have hsf := (show (sf1 (801 * zz + j1)).toInt = T.2.1 j1 from (hZ1.2 j1 (by omega)).1)
        have hob := hok.2.2.2 j1 (by omega)
        have hsb := hok.2.1 j1 (by omega)
        have hen := en_60 (T := T) (k := j1)
        have hen0 := en_0 hok (k := j1) (by omega)
        refine v_aload_n C 0 dX9_lastAhead_16 rfl rfl ?_
        refine v_getr C 68 dX9_lastAhead_17 fX9_64 (by omega) hE5_68 rfl rfl ?_
        refine v_sipush (v := 801) C dX9_lastAhead_20 (by decide) ?_
        refine v_iload_n C 1 dX9_lastAhead_23 rfl rfl ?_
        refine v_imul C dX9_lastAhead_24 ?_
        refine v_top (fun x13 ex13 => ?_)
        have hx13 : x13.toInt = (801 * (zz : Int)) := by rw [ex13]; exact ti_mul (show (801 : Int32).toInt = 801 by decide) hz (by omega) (by omega)
        refine v_iload_n C 3 dX9_lastAhead_25 rfl rfl ?_
        refine v_iadd C dX9_lastAhead_26 ?_
        refine v_top (fun x14 ex14 => ?_)
        have hx14 : x14.toInt = ((801 * (zz : Int)) + (j1 : Int)) := by rw [ex14]; exact ti_add hx13 hy4 (by omega) (by omega)
        refine v_ald (v := sp1 (801 * zz + j1)) C 81 dX9_lastAhead_27 (by omega) hE5_81 (ti_in hx14 (by omega) (by omega)) (by rw [ti_cl hx14, show Int.toNat ((801 * (zz : Int)) + (j1 : Int)) = 801 * zz + j1 by omega]) ?_
        refine v_istore (lv' := [(0, .ref (ad 68)), (1, .int z), (2, .int w), (3, .int y4), (4, .int (sp1 (801 * zz + j1)))]) C [1, 2, 3, 4, 0] dX9_lastAhead_28 (by decide) rfl ?_
        refine v_iload_n C 2 dX9_lastAhead_30 rfl rfl ?_
        refine v_iconst (v := 1) C dX9_lastAhead_31 (by decide) ?_
        refine v_isub C dX9_lastAhead_32 ?_
        refine v_top (fun x15 ex15 => ?_)
        have hx15 : x15.toInt = (w.toInt - 1) := by rw [ex15]; exact ti_sub (rfl : Int32.toInt w = _) (show (1 : Int32).toInt = 1 by decide) (by omega) (by omega)
        refine v_iload C 4 dX9_lastAhead_33 rfl ?_
        refine v_isub C dX9_lastAhead_35 ?_
        refine v_top (fun x16 ex16 => ?_)
        have hx16 : x16.toInt = ((w.toInt - 1) - (T.2.2 j1)) := by rw [ex16]; exact ti_sub hx15 hsp (by omega) (by omega)
        refine v_aload_n C 0 dX9_lastAhead_36 rfl rfl ?_
        refine v_iload_n C 1 dX9_lastAhead_37 rfl rfl ?_
        refine v_iload_n C 3 dX9_lastAhead_38 rfl rfl ?_
        refine v_cVp C dX9_lastAhead_39 lX9_188 mX9_spanEnd 68 (by omega) hE5_68 (by decide) rfl (y_spanEnd l G n ad _ hn hE5_68 hE5_80 hE5_82 (by omega) hcT hc8 hZ1 hok z y4 hz hy4 (by omega)) ⟨by decide, by decide⟩ rfl (Nat.le_of_ble_eq_true rfl) ⟨Nat.zero_le _, Nat.zero_le _⟩ (fun r17 hp18 => ?_)
        refine b_icmp_ge C 54 dX9_lastAhead_42 (by decide) hx16 hp18 (fun c19 => ?_) (fun c19 => ?_)
        · refine v_aload_n C 0 dX9_lastAhead_54 rfl rfl ?_
          refine v_iload_n C 1 dX9_lastAhead_55 rfl rfl ?_
          refine v_iload_n C 3 dX9_lastAhead_56 rfl rfl ?_
          refine v_cVp C dX9_lastAhead_57 lX9_188 mX9_spanEnd 68 (by omega) hE5_68 (by decide) rfl (y_spanEnd l G n ad _ hn hE5_68 hE5_80 hE5_82 (by omega) hcT hc8 hZ1 hok z y4 hz hy4 (by omega)) ⟨by decide, by decide⟩ rfl (Nat.le_of_ble_eq_true rfl) ⟨Nat.zero_le _, Nat.zero_le _⟩ (fun r20 hp21 => ?_)
          have hmn : (enT T j1 - 1) = mnI (w.toInt - T.2.2 j1) (enT T j1) - 1 := by unfold mnI; split <;> omega
          refine v_istore (lv' := [(0, .ref (ad 68)), (1, .int z), (2, .int w), (3, .int y4), (4, .int (sp1 (801 * zz + j1))), (5, .int r20)]) C [1, 2, 3, 4, 5, 0] dX9_lastAhead_60 (by decide) rfl ?_
          refine v_iload C 5 dX9_lastAhead_62 rfl ?_
          refine v_aload_n C 0 dX9_lastAhead_64 rfl rfl ?_
          refine v_getr C 68 dX9_lastAhead_65 fX9_61 (by omega) hE5_68 rfl rfl ?_
          refine v_sipush (v := 801) C dX9_lastAhead_68 (by decide) ?_
          refine v_iload_n C 1 dX9_lastAhead_71 rfl rfl ?_
          refine v_imul C dX9_lastAhead_72 ?_
          refine v_top (fun x22 ex22 => ?_)
          have hx22 : x22.toInt = (801 * (zz : Int)) := by rw [ex22]; exact ti_mul (show (801 : Int32).toInt = 801 by decide) hz (by omega) (by omega)
          refine v_iload_n C 3 dX9_lastAhead_73 rfl rfl ?_
          refine v_iadd C dX9_lastAhead_74 ?_
          refine v_top (fun x23 ex23 => ?_)
          have hx23 : x23.toInt = ((801 * (zz : Int)) + (j1 : Int)) := by rw [ex23]; exact ti_add hx22 hy4 (by omega) (by omega)
          refine v_ald (v := sf1 (801 * zz + j1)) C 80 dX9_lastAhead_75 (by omega) hE5_80 (ti_in hx23 (by omega) (by omega)) (by rw [ti_cl hx23, show Int.toNat ((801 * (zz : Int)) + (j1 : Int)) = 801 * zz + j1 by omega]) ?_
          refine b_icmp_lt C 82 dX9_lastAhead_76 (by decide) hp21 hsf (fun c24 => ?_) (fun c24 => ?_)
          · obtain ⟨x25, ex25⟩ : ∃ y : Int32, y = y4 + (-1) := ⟨_, rfl⟩
            have hx25 : x25.toInt = ((j1 : Int) + (-1)) := by rw [ex25]; exact ti_add hy4 (show ((-1) : Int32).toInt = (-1) by decide) (by omega) (by omega)
            refine v_iinc (v := x25) (lv' := [(0, .ref (ad 68)), (1, .int z), (2, .int w), (3, .int x25), (4, .int (sp1 (801 * zz + j1))), (5, .int r20)]) C 3 [1, 2, 3, 0, 4, 5] dX9_lastAhead_82 rfl (ex25.symm) (by decide) rfl ?_
            refine v_goto C 12 dX9_lastAhead_85 (by decide) ?_
            refine v_sub (lv' := [(0, .ref (ad 68)), (1, .int z), (2, .int w), (3, .int x25)]) [0, 1, 2, 3] rfl ?_
            exact ih10 ((j1 : Int) + (-1)) x25 E5 hx25 (fun j => (hfr6 j )) (by omega) (by omega) (by rw [hla, show ((j1 : Int) + 1).toNat = j1 + 1 by omega, la_miss hmn (by omega), show (((j1 : Int) + (-1)) + 1).toNat = j1 by omega]) (by omega)
          · refine v_iload C 5 dX9_lastAhead_79 rfl ?_
            have hEE : E5 = E1 := funext (fun j => hfr6 j)
            exact v_ret C dX9_lastAhead_81 rfl rfl ⟨by rw [hEE]; exact hFQ, (by rw [hla, show ((j1 : Int) + 1).toNat = j1 + 1 by omega, la_hit hmn (by omega)]; exact hp21)⟩
        · refine v_iload_n C 2 dX9_lastAhead_45 rfl rfl ?_
          refine v_iconst (v := 1) C dX9_lastAhead_46 (by decide) ?_
          refine v_isub C dX9_lastAhead_47 ?_
          refine v_top (fun x26 ex26 => ?_)
          have hx26 : x26.toInt = (w.toInt - 1) := by rw [ex26]; exact ti_sub (rfl : Int32.toInt w = _) (show (1 : Int32).toInt = 1 by decide) (by omega) (by omega)
          refine v_iload C 4 dX9_lastAhead_48 rfl ?_
          refine v_isub C dX9_lastAhead_50 ?_
          refine v_top (fun x27 ex27 => ?_)
          have hx27 : x27.toInt = ((w.toInt - 1) - (T.2.2 j1)) := by rw [ex27]; exact ti_sub hx26 hsp (by omega) (by omega)
          refine v_goto C 60 dX9_lastAhead_51 (by decide) ?_
          have hmn : ((w.toInt - 1) - (T.2.2 j1)) = mnI (w.toInt - T.2.2 j1) (enT T j1) - 1 := by unfold mnI; split <;> omega
          refine v_istore (lv' := [(0, .ref (ad 68)), (1, .int z), (2, .int w), (3, .int y4), (4, .int (sp1 (801 * zz + j1))), (5, .int x27)]) C [1, 2, 3, 4, 5, 0] dX9_lastAhead_60 (by decide) rfl ?_
          refine v_iload C 5 dX9_lastAhead_62 rfl ?_
          refine v_aload_n C 0 dX9_lastAhead_64 rfl rfl ?_
          refine v_getr C 68 dX9_lastAhead_65 fX9_61 (by omega) hE5_68 rfl rfl ?_
          refine v_sipush (v := 801) C dX9_lastAhead_68 (by decide) ?_
          refine v_iload_n C 1 dX9_lastAhead_71 rfl rfl ?_
          refine v_imul C dX9_lastAhead_72 ?_
          refine v_top (fun x28 ex28 => ?_)
          have hx28 : x28.toInt = (801 * (zz : Int)) := by rw [ex28]; exact ti_mul (show (801 : Int32).toInt = 801 by decide) hz (by omega) (by omega)
          refine v_iload_n C 3 dX9_lastAhead_73 rfl rfl ?_
          refine v_iadd C dX9_lastAhead_74 ?_
          refine v_top (fun x29 ex29 => ?_)
          have hx29 : x29.toInt = ((801 * (zz : Int)) + (j1 : Int)) := by rw [ex29]; exact ti_add hx28 hy4 (by omega) (by omega)
          refine v_ald (v := sf1 (801 * zz + j1)) C 80 dX9_lastAhead_75 (by omega) hE5_80 (ti_in hx29 (by omega) (by omega)) (by rw [ti_cl hx29, show Int.toNat ((801 * (zz : Int)) + (j1 : Int)) = 801 * zz + j1 by omega]) ?_
          refine b_icmp_lt C 82 dX9_lastAhead_76 (by decide) hx27 hsf (fun c30 => ?_) (fun c30 => ?_)
          · obtain ⟨x31, ex31⟩ : ∃ y : Int32, y = y4 + (-1) := ⟨_, rfl⟩
            have hx31 : x31.toInt = ((j1 : Int) + (-1)) := by rw [ex31]; exact ti_add hy4 (show ((-1) : Int32).toInt = (-1) by decide) (by omega) (by omega)
            refine v_iinc (v := x31) (lv' := [(0, .ref (ad 68)), (1, .int z), (2, .int w), (3, .int x31), (4, .int (sp1 (801 * zz + j1))), (5, .int x27)]) C 3 [1, 2, 3, 0, 4, 5] dX9_lastAhead_82 rfl (ex31.symm) (by decide) rfl ?_
            refine v_goto C 12 dX9_lastAhead_85 (by decide) ?_
            refine v_sub (lv' := [(0, .ref (ad 68)), (1, .int z), (2, .int w), (3, .int x31)]) [0, 1, 2, 3] rfl ?_
            exact ih10 ((j1 : Int) + (-1)) x31 E5 hx31 (fun j => (hfr6 j )) (by omega) (by omega) (by rw [hla, show ((j1 : Int) + 1).toNat = j1 + 1 by omega, la_miss hmn (by omega), show (((j1 : Int) + (-1)) + 1).toNat = j1 by omega]) (by omega)
          · refine v_iload C 5 dX9_lastAhead_79 rfl ?_
            have hEE : E5 = E1 := funext (fun j => hfr6 j)
            exact v_ret C dX9_lastAhead_81 rfl rfl ⟨by rw [hEE]; exact hFQ, (by rw [hla, show ((j1 : Int) + 1).toNat = j1 + 1 by omega, la_hit hmn (by omega)]; exact hx27)⟩
  exact LP3 100000 (c : Int) (sc1 zz) E1 hsc (fun j => rfl) (by omega) (by omega) (by rw [show ((c : Int) + 1).toNat = T.1 + 1 by omega]) (by omega)

set_option maxRecDepth 20000 in
theorem y_turned (l : Launch) (G : Gl) (n : Nat) (ad : Nat → Nat) (E : Nat → va_E) (hn : 98 ≤ n) {im ic md : Nat → Int32} (hW : MCal G ad E im ic md) {rf rto ron rat rbe rtd rm fv : Nat → Int32} (hR : ZMr G E rf rto ron rat rbe rtd rm fv) {TT : Nat → TST} (hS : ZMs G E 5 TT) (hTT : ∀ z, z < 5 → TT z = TTz ic md rf rto ron rat rbe rtd rm fv (im 18).toInt z) (hV : ∀ z, z < 5 → RZv ic rf rto ron rat rbe rtd rm fv z) {zz : Nat} (hzz : zz < 5) (z : Int32) (w : Int32) (y : Int32) (hz : z.toInt = (zz : Int)) (hw : 0 ≤ w.toInt ∧ w.toInt ≤ 69400000) (hy : y.toInt = 0 ∨ y.toInt = 1) : CtI l G yX9_turned cX9_turned 5 .int 5 123 (n) ad E [.ref (ad 68), .int z, .int w, .int y] (fun r E' => (r.toInt = trT (TT zz) w.toInt y.toInt) ∧ FQ G ad E E' im ic md 5 TT) := by
  refine CtI.of (by decide) (Nat.le_of_ble_eq_true rfl) (fun X A C => ?_)
  refine v_sub (lv' := [(0, .ref (ad 68)), (1, .int z), (2, .int w), (3, .int y)]) [0, 1, 2, 3] rfl ?_
  have hP := hW.2.1
  have h68 := hW.2.2.1
  have hcy := cal_y hP
  have h8T : ∀ z, z < 5 → (TT z).1 ≤ 800 := fun z hz => by rw [hTT z hz]; exact (TTz_ok hP (hV z hz)).2
  have hokT : ∀ z, z < 5 → okT 69300000 (TT z) := fun z hz => by rw [hTT z hz]; exact (TTz_ok hP (hV z hz)).1
  refine v_aload_n C 0 dX9_turned_0 rfl rfl ?_
  refine v_iload_n C 1 dX9_turned_1 rfl rfl ?_
  refine v_iload_n C 2 dX9_turned_2 rfl rfl ?_
  refine v_iconst (v := (-1)) C dX9_turned_3 (by decide) ?_
  refine v_cVi C dX9_turned_4 lX9_191 mX9_momentOf 68 (by omega) h68 (by decide) rfl (y_momentOf l G n ad _ hn hW hR hS (k := 5) (zz := zz) (by omega) (by omega) hTT hV (T := TT zz) rfl (c := (TT zz).1) rfl z w (-1) hz (by omega)) ⟨by decide, by decide⟩ rfl (Nat.le_of_ble_eq_true rfl) ⟨Nat.zero_le _, Nat.zero_le _⟩ (fun r1 E2 hq3 => ?_)
  obtain ⟨hF4, hq3⟩ := hq3
  obtain ⟨im5, hi5, hW5, hS5, hO5⟩ := id hF4
  have hR5 := hR.go (fun j h1 h2 => hO5 j (by omega) (by omega) (by omega))
  have hTT5 : ∀ z, z < 5 → TT z = TTz ic md rf rto ron rat rbe rtd rm fv (im5 18).toInt z := fun z hz => by rw [hi5 18 (by decide)]; exact hTT z hz
  have hG5 := hF4
  have e685 := hW5.2.2.1
  have hmany := hq3.1 (by decide)
  have hcl := cntU_le (T := TT zz) (w := w.toInt) ((TT zz).1 + 1)
  have h8z := h8T zz hzz
  refine v_istore (lv' := [(0, .ref (ad 68)), (1, .int z), (2, .int w), (3, .int y), (4, .int r1)]) C [1, 2, 3, 4, 0] dX9_turned_7 (by decide) rfl ?_
  refine v_iload C 4 dX9_turned_9 rfl ?_
  refine b_if_le C 33 dX9_turned_11 (by decide) hmany (fun c6 => ?_) (fun c6 => ?_)
  · refine v_iload_n C 3 dX9_turned_33 rfl rfl ?_
    refine b_if_ne C 50 dX9_turned_34 (by decide) (rfl : Int32.toInt y = _) (fun c7 => ?_) (fun c7 => ?_)
    · refine v_aload_n C 0 dX9_turned_50 rfl rfl ?_
      refine v_iload_n C 1 dX9_turned_51 rfl rfl ?_
      refine v_iload_n C 2 dX9_turned_52 rfl rfl ?_
      refine v_cVi C dX9_turned_53 lX9_239 mX9_lastAhead 68 (by omega) e685 (by decide) rfl (y_lastAhead l G n ad _ hn hW5 hR5 hS5 (k := 5) (zz := zz) (by omega) (by omega) hTT5 hV (T := TT zz) rfl (c := (TT zz).1) rfl z w hz (by omega)) ⟨by decide, by decide⟩ rfl (Nat.le_of_ble_eq_true rfl) ⟨Nat.zero_le _, Nat.zero_le _⟩ (fun r8 E9 hq10 => ?_)
      obtain ⟨hF11, hq10⟩ := hq10
      obtain ⟨im12, hi12, hW12, hS12, hO12⟩ := id hF11
      have hR12 := hR5.go (fun j h1 h2 => hO12 j (by omega) (by omega) (by omega))
      have hTT12 : ∀ z, z < 5 → TT z = TTz ic md rf rto ron rat rbe rtd rm fv (im12 18).toInt z := fun z hz => by rw [hi12 18 (by decide)]; exact hTT5 z hz
      have hG12 := FQ.trans hi5 hO5 hF11
      have hit12 : ∀ q, q ≠ 7 → im12 q = im q := fun q hq => (hi12 q hq).trans (hi5 q hq)
      have hOt12 : ∀ j, j ≠ 68 → j ≠ 70 → (j < 79 ∨ 84 < j) → E9 j = E j := fun j g1 g2 g3 => (hO12 j g1 g2 g3).trans (hO5 j g1 g2 g3)
      have e6812 := hW12.2.2.1
      exact v_ret C dX9_turned_56 rfl rfl ⟨hq10.trans (tr_la ((lh_cnt (hokT zz hzz) _ (Nat.le_refl _)).mpr (by omega)) (by omega)).symm, hG12⟩
    · refine v_aload_n C 0 dX9_turned_37 rfl rfl ?_
      refine v_iload_n C 1 dX9_turned_38 rfl rfl ?_
      refine v_iload_n C 2 dX9_turned_39 rfl rfl ?_
      refine v_iconst (v := 1) C dX9_turned_40 (by decide) ?_
      refine v_iadd C dX9_turned_41 ?_
      refine v_top (fun x13 ex13 => ?_)
      have hx13 : x13.toInt = (w.toInt + 1) := by rw [ex13]; exact ti_add (rfl : Int32.toInt w = _) (show (1 : Int32).toInt = 1 by decide) (by omega) (by omega)
      refine v_ldc C dX9_turned_42 kX9_235 ?_
      refine v_cVi C dX9_turned_44 lX9_236 mX9_firstFrom 68 (by omega) e685 (by decide) rfl (y_firstFrom l G n ad _ hn hW5 hR5 hS5 (k := 5) (zz := zz) (by omega) (by omega) hTT5 hV (T := TT zz) rfl (c := (TT zz).1) rfl z x13 2147483647 hz (by omega)) ⟨by decide, by decide⟩ rfl (Nat.le_of_ble_eq_true rfl) ⟨Nat.zero_le _, Nat.zero_le _⟩ (fun r14 E15 hq16 => ?_)
      obtain ⟨hF17, hq16⟩ := hq16
      obtain ⟨im18, hi18, hW18, hS18, hO18⟩ := id hF17
      have hR18 := hR5.go (fun j h1 h2 => hO18 j (by omega) (by omega) (by omega))
      have hTT18 : ∀ z, z < 5 → TT z = TTz ic md rf rto ron rat rbe rtd rm fv (im18 18).toInt z := fun z hz => by rw [hi18 18 (by decide)]; exact hTT5 z hz
      have hG18 := FQ.trans hi5 hO5 hF17
      have hit18 : ∀ q, q ≠ 7 → im18 q = im q := fun q hq => (hi18 q hq).trans (hi5 q hq)
      have hOt18 : ∀ j, j ≠ 68 → j ≠ 70 → (j < 79 ∨ 84 < j) → E15 j = E j := fun j g1 g2 g3 => (hO18 j g1 g2 g3).trans (hO5 j g1 g2 g3)
      have e6818 := hW18.2.2.1
      rw [hx13, (show (2147483647 : Int32).toInt = 2147483647 by decide)] at hq16
      refine v_goto C 56 dX9_turned_47 (by decide) ?_
      exact v_ret C dX9_turned_56 rfl rfl ⟨hq16.trans (tr_ff ((lh_cnt (hokT zz hzz) _ (Nat.le_refl _)).mpr (by omega)) (by omega)).symm, hG18⟩
  · refine v_aload_n C 0 dX9_turned_14 rfl rfl ?_
    refine v_iload_n C 1 dX9_turned_15 rfl rfl ?_
    refine v_iload_n C 2 dX9_turned_16 rfl rfl ?_
    refine v_iload_n C 3 dX9_turned_17 rfl rfl ?_
    refine b_if_ne C 25 dX9_turned_18 (by decide) (rfl : Int32.toInt y = _) (fun c19 => ?_) (fun c19 => ?_)
    · refine v_iload C 4 dX9_turned_25 rfl ?_
      refine v_iconst (v := 1) C dX9_turned_27 (by decide) ?_
      refine v_isub C dX9_turned_28 ?_
      refine v_top (fun x20 ex20 => ?_)
      have hx20 : x20.toInt = ((cntU (TT zz) w.toInt ((TT zz).1 + 1) : Int) - 1) := by rw [ex20]; exact ti_sub hmany (show (1 : Int32).toInt = 1 by decide) (by omega) (by omega)
      refine v_cVi C dX9_turned_29 lX9_191 mX9_momentOf 68 (by omega) e685 (by decide) rfl (y_momentOf l G n ad _ hn hW5 hR5 hS5 (k := 5) (zz := zz) (by omega) (by omega) hTT5 hV (T := TT zz) rfl (c := (TT zz).1) rfl z w x20 hz (by omega)) ⟨by decide, by decide⟩ rfl (Nat.le_of_ble_eq_true rfl) ⟨Nat.zero_le _, Nat.zero_le _⟩ (fun r21 E22 hq23 => ?_)
      obtain ⟨hF24, hq23⟩ := hq23
      obtain ⟨im25, hi25, hW25, hS25, hO25⟩ := id hF24
      have hR25 := hR5.go (fun j h1 h2 => hO25 j (by omega) (by omega) (by omega))
      have hTT25 : ∀ z, z < 5 → TT z = TTz ic md rf rto ron rat rbe rtd rm fv (im25 18).toInt z := fun z hz => by rw [hi25 18 (by decide)]; exact hTT5 z hz
      have hG25 := FQ.trans hi5 hO5 hF24
      have hit25 : ∀ q, q ≠ 7 → im25 q = im q := fun q hq => (hi25 q hq).trans (hi5 q hq)
      have hOt25 : ∀ j, j ≠ 68 → j ≠ 70 → (j < 79 ∨ 84 < j) → E22 j = E j := fun j g1 g2 g3 => (hO25 j g1 g2 g3).trans (hO5 j g1 g2 g3)
      have e6825 := hW25.2.2.1
      have hMo := hq23.2 (by omega)
      rw [hx20] at hMo
      exact v_ret C dX9_turned_32 rfl rfl ⟨(by rw [lh_Mo (hokT zz hzz) hMo (by omega)]; unfold trT; rw [if_neg (fun q => by have := (lh_cnt (hokT zz hzz) _ (Nat.le_refl _)).mp q; omega), if_pos (by omega)]), hG25⟩
    · refine v_iconst (v := 0) C dX9_turned_21 (by decide) ?_
      refine v_goto C 29 dX9_turned_22 (by decide) ?_
      refine v_cVi C dX9_turned_29 lX9_191 mX9_momentOf 68 (by omega) e685 (by decide) rfl (y_momentOf l G n ad _ hn hW5 hR5 hS5 (k := 5) (zz := zz) (by omega) (by omega) hTT5 hV (T := TT zz) rfl (c := (TT zz).1) rfl z w 0 hz (by omega)) ⟨by decide, by decide⟩ rfl (Nat.le_of_ble_eq_true rfl) ⟨Nat.zero_le _, Nat.zero_le _⟩ (fun r26 E27 hq28 => ?_)
      obtain ⟨hF29, hq28⟩ := hq28
      obtain ⟨im30, hi30, hW30, hS30, hO30⟩ := id hF29
      have hR30 := hR5.go (fun j h1 h2 => hO30 j (by omega) (by omega) (by omega))
      have hTT30 : ∀ z, z < 5 → TT z = TTz ic md rf rto ron rat rbe rtd rm fv (im30 18).toInt z := fun z hz => by rw [hi30 18 (by decide)]; exact hTT5 z hz
      have hG30 := FQ.trans hi5 hO5 hF29
      have hit30 : ∀ q, q ≠ 7 → im30 q = im q := fun q hq => (hi30 q hq).trans (hi5 q hq)
      have hOt30 : ∀ j, j ≠ 68 → j ≠ 70 → (j < 79 ∨ 84 < j) → E27 j = E j := fun j g1 g2 g3 => (hO30 j g1 g2 g3).trans (hO5 j g1 g2 g3)
      have e6830 := hW30.2.2.1
      have hMo := hq28.2 (by decide)
      rw [(show (0 : Int32).toInt = 0 by decide)] at hMo
      exact v_ret C dX9_turned_32 rfl rfl ⟨(by rw [fh_Mo (hokT zz hzz) hMo (by omega)]; unfold trT; rw [if_neg (fun q => by have := (lh_cnt (hokT zz hzz) _ (Nat.le_refl _)).mp q; omega), if_neg (by omega)]), hG30⟩

