set_option maxRecDepth 20000 in
theorem lp_zero {X : Mx} {l : Launch} {G : Gl} {A : Nat → Prop} {ret : Option FieldType} {R : Room} {Q : State → Prop} {n : Nat} {ad : Nat → Nat} (C : Cx X l G A "OddHours$Odds" cX4_listMarks 8 ret R) (E : Nat → va_E) (hq : 48 ≤ n) {iq : Nat → Int32} (hE45 : E 45 = ob 4 (rfs ad [46, 47]) iq) {mk : Nat → Int64} (hE46 : E 46 = aJ G 31251 mk) (wd : Int32) {W m : Nat} (hwd : wd.toInt = (W : Int)) (hW : W ≤ 31251) (hm : m ≤ W) (kont : ∀ x2 : Int32, x2.toInt = (m : Int) → V X G A 8 Q n ad 0 0 E 7 [(0, .ref (ad 45)), (1, .int wd), (2, .int x2)] []) :
    ∀ (t k : Nat) (x2 : Int32), k + t = m → x2.toInt = (k : Int) → (∀ j, k ≤ j → j < m → mk j = 0) → V X G A 8 Q n ad 0 0 E 7 [(0, .ref (ad 45)), (1, .int wd), (2, .int x2)] [] := by
  intro t
  induction t with
  | zero =>
    intro k x2 hk hx2 hz
    exact kont x2 (by rw [hx2]; omega)
  | succ t ih =>
    intro k x2 hk hx2 hz
    refine v_iload_n C 2 dX4_listMarks_7 rfl rfl ?_
    refine v_iload_n C 1 dX4_listMarks_8 rfl rfl ?_
    refine b_icmp_ge C 106 dX4_listMarks_9 (by decide) hx2 hwd (fun c31 => by exfalso; omega) (fun c31 => ?_)
    refine v_aload_n C 0 dX4_listMarks_12 rfl rfl ?_
    refine v_getr C 45 dX4_listMarks_13 fX4_9 (by omega) hE45 rfl rfl ?_
    refine v_iload_n C 2 dX4_listMarks_16 rfl rfl ?_
    refine v_jald (v := 0) C 46 dX4_listMarks_17 (by omega) hE46 (ti_in hx2 (by omega) (by omega)) (by rw [ti_cl hx2, show Int.toNat (k : Int) = k by omega]; exact hz k (by omega) (by omega)) ?_
    refine v_lstore_n (lv' := [(0, .ref (ad 45)), (1, .int wd), (2, .int x2), (3, .long 0)]) C [1, 2, 3, 0] dX4_listMarks_18 rfl (by decide) rfl ?_
    refine v_iconst (v := 0) C dX4_listMarks_19 (by decide) ?_
    refine v_istore (lv' := [(0, .ref (ad 45)), (1, .int wd), (2, .int x2), (3, .long 0), (5, .int 0)]) C [1, 2, 3, 4, 0] dX4_listMarks_20 (by decide) rfl ?_
    refine v_iload C 4 dX4_listMarks_22 rfl ?_
    refine v_bipush (v := 64) C dX4_listMarks_24 (by decide) ?_
    refine b_icmp_ge C 100 dX4_listMarks_26 (by decide) (show (0 : Int32).toInt = 0 by decide) (show (64 : Int32).toInt = 64 by decide) (fun c32 => absurd c32 (by decide)) (fun c32 => ?_)
    refine v_lload_n C 3 dX4_listMarks_29 rfl rfl ?_
    refine v_lconst (v := 0) C dX4_listMarks_30 (by decide) ?_
    refine v_lcmp C dX4_listMarks_31 ?_
    refine b_if_eq C 100 dX4_listMarks_32 (by decide) (rfl : Int32.toInt (lg_cmp 0 0) = _) (fun c33 => ?_) (fun c33 => absurd (by decide) c33)
    obtain ⟨x34, ex34⟩ : ∃ y : Int32, y = x2 + 1 := ⟨_, rfl⟩
    have hx34 : x34.toInt = ((k : Int) + 1) := by rw [ex34]; exact ti_add hx2 (show (1 : Int32).toInt = 1 by decide) (by omega) (by omega)
    refine v_iinc (v := x34) (lv' := [(0, .ref (ad 45)), (1, .int wd), (2, .int x34), (3, .long 0), (5, .int 0)]) C 2 [1, 2, 0, 3, 4] dX4_listMarks_100 rfl (ex34.symm) (by decide) rfl ?_
    refine v_goto C 7 dX4_listMarks_103 (by decide) ?_
    refine v_sub (lv' := [(0, .ref (ad 45)), (1, .int wd), (2, .int x34)]) [0, 1, 2] rfl ?_
    exact ih (k + 1) x34 (by omega) (by rw [hx34]; omega) (fun j h1 h2 => hz j (by omega) h2)

set_option maxRecDepth 20000 in
theorem c_list1 (l : Launch) (G : Gl) (n : Nat) (ad : Nat → Nat) (E : Nat → va_E) (hq : 48 ≤ n) {iq : Nat → Int32} (hE45 : E 45 = ob 4 (rfs ad [46, 47]) iq) {mk : Nat → Int64} (hE46 : E 46 = aJ G 31251 mk) {lq : Nat → Int32} (hE47 : E 47 = aI G 26002 lq) (wd : Int32) {fa D W : Nat} (hwd : wd.toInt = (W : Int)) (hfa : (iq 3).toInt = (fa : Int)) (hfb : fa < 60000000) (hDm : D ≤ 2000000) (hD : D = 0) (hW : W = 1) (hm0 : mk 0 = 1)  : CtV l G yX4_listMarks cX4_listMarks 8 1 21 n ad E [.ref (ad 45), .int wd] (fun E' => ∃ iq2 lq2 : Nat → Int32, E' 45 = ob 4 (rfs ad [46, 47]) iq2 ∧ (∀ k, k ≠ 2 → iq2 k = iq k) ∧ (iq2 2).toInt = (if D = 0 then 1 else 2) ∧ E' 47 = aI G 26002 lq2 ∧ (lq2 0).toInt = (fa : Int) ∧ (D ≠ 0 → (lq2 1).toInt = (fa : Int) + (D : Int)) ∧ ∀ j, j ≠ 45 → j ≠ 47 → E' j = E j) := by
  refine CtV.of (by decide) (Nat.le_of_ble_eq_true rfl) (fun X A C => ?_)
  refine v_sub (lv' := [(0, .ref (ad 45)), (1, .int wd)]) [0, 1] rfl ?_
  refine v_aload_n C 0 dX4_listMarks_0 rfl rfl ?_
  refine v_iconst (v := 0) C dX4_listMarks_1 (by decide) ?_
  refine v_puti C 45 dX4_listMarks_2 fX4_78 (by omega) hE45 rfl rfl rfl rfl (fun E1 hE1_45 oE1 => ?_)
  have hE1_46 := (oE1 46 (by decide)).trans hE46
  have hE1_47 := (oE1 47 (by decide)).trans hE47
  refine v_iconst (v := 0) C dX4_listMarks_5 (by decide) ?_
  refine v_istore_n (lv' := [(0, .ref (ad 45)), (1, .int wd), (2, .int 0)]) C [1, 2, 0] dX4_listMarks_6 rfl (by decide) rfl ?_
  refine v_iload_n C 2 dX4_listMarks_7 rfl rfl ?_
  refine v_iload_n C 1 dX4_listMarks_8 rfl rfl ?_
  refine b_icmp_ge C 106 dX4_listMarks_9 (by decide) (show (0 : Int32).toInt = 0 by decide) hwd (fun c2 => by exfalso; omega) (fun c2 => ?_)
  refine v_aload_n C 0 dX4_listMarks_12 rfl rfl ?_
  refine v_getr C 45 dX4_listMarks_13 fX4_9 (by omega) hE1_45 rfl rfl ?_
  refine v_iload_n C 2 dX4_listMarks_16 rfl rfl ?_
  refine v_jald (v := 1) C 46 dX4_listMarks_17 (by omega) hE1_46 (ti_in (show (0 : Int32).toInt = 0 by decide) (by omega) (by omega)) ((congrArg mk (show Int32.toNatClampNeg 0 = 0 by decide)).trans hm0) ?_
  refine v_lstore_n (lv' := [(0, .ref (ad 45)), (1, .int wd), (2, .int 0), (3, .long 1)]) C [1, 2, 3, 0] dX4_listMarks_18 rfl (by decide) rfl ?_
  refine v_iconst (v := 0) C dX4_listMarks_19 (by decide) ?_
  refine v_istore (lv' := [(0, .ref (ad 45)), (1, .int wd), (2, .int 0), (3, .long 1), (5, .int 0)]) C [1, 2, 3, 4, 0] dX4_listMarks_20 (by decide) rfl ?_
  refine v_iload C 4 dX4_listMarks_22 rfl ?_
  refine v_bipush (v := 64) C dX4_listMarks_24 (by decide) ?_
  refine b_icmp_ge C 100 dX4_listMarks_26 (by decide) (show (0 : Int32).toInt = 0 by decide) (show (64 : Int32).toInt = 64 by decide) (fun c3 => absurd c3 (by decide)) (fun c3 => ?_)
  refine v_lload_n C 3 dX4_listMarks_29 rfl rfl ?_
  refine v_lconst (v := 0) C dX4_listMarks_30 (by decide) ?_
  refine v_lcmp C dX4_listMarks_31 ?_
  refine b_if_eq C 100 dX4_listMarks_32 (by decide) (rfl : Int32.toInt (lg_cmp 1 0) = _) (fun c4 => absurd c4 (by decide)) (fun c4 => ?_)
  refine v_aload_n C 0 dX4_listMarks_35 rfl rfl ?_
  refine v_geti (v := 0) C 45 dX4_listMarks_36 fX4_78 (by omega) hE1_45 rfl rfl ?_
  refine v_aload_n C 0 dX4_listMarks_39 rfl rfl ?_
  refine v_getr C 45 dX4_listMarks_40 fX4_15 (by omega) hE1_45 rfl rfl ?_
  refine v_alenI (v := 26002) C 47 dX4_listMarks_43 (by omega) hE1_47 (by decide) ?_
  refine b_icmp_ge C 100 dX4_listMarks_44 (by decide) (show (0 : Int32).toInt = 0 by decide) (show (26002 : Int32).toInt = 26002 by decide) (fun c5 => absurd c5 (by decide)) (fun c5 => ?_)
  refine v_lload_n C 3 dX4_listMarks_47 rfl rfl ?_
  refine v_lload_n C 3 dX4_listMarks_48 rfl rfl ?_
  refine v_lneg C dX4_listMarks_49 ?_
  refine v_land C dX4_listMarks_50 ?_
  refine v_eql (y := 1) (by decide) ?_
  refine v_lstore (lv' := [(0, .ref (ad 45)), (1, .int wd), (2, .int 0), (3, .long 1), (5, .int 0), (6, .long 1)]) C [1, 2, 3, 4, 5, 0] dX4_listMarks_51 (by decide) rfl ?_
  refine v_aload_n C 0 dX4_listMarks_53 rfl rfl ?_
  refine v_getr C 45 dX4_listMarks_54 fX4_15 (by omega) hE1_45 rfl rfl ?_
  refine v_aload_n C 0 dX4_listMarks_57 rfl rfl ?_
  refine v_geti (v := 0) C 45 dX4_listMarks_58 fX4_78 (by omega) hE1_45 rfl rfl ?_
  refine v_aload_n C 0 dX4_listMarks_61 rfl rfl ?_
  refine v_geti (v := iq 3) C 45 dX4_listMarks_62 fX4_23 (by omega) hE1_45 rfl rfl ?_
  refine v_iload_n C 2 dX4_listMarks_65 rfl rfl ?_
  refine v_bipush (v := 64) C dX4_listMarks_66 (by decide) ?_
  refine v_imul C dX4_listMarks_68 ?_
  refine v_eq (y := 0) (by decide) ?_
  refine v_iadd C dX4_listMarks_69 ?_
  refine v_top (fun x6 ex6 => ?_)
  have hx6 : x6.toInt = ((fa : Int) + 0) := by rw [ex6]; exact ti_add hfa (show (0 : Int32).toInt = 0 by decide) (by omega) (by omega)
  refine v_lload C 5 dX4_listMarks_70 rfl ?_
  refine v_lconst (v := 1) C dX4_listMarks_72 (by decide) ?_
  refine v_lsub C dX4_listMarks_73 ?_
  refine v_eql (y := 0) (by decide) ?_
  refine v_cSp C dX4_listMarks_74 lX4_81 mJ13_bitCount_95d88 (c_bitCount l G n ad _ 0) ⟨by decide, by decide⟩ rfl (Nat.le_of_ble_eq_true rfl) ⟨Nat.zero_le _, Nat.zero_le _⟩ (fun r7 hp8 => ?_)
  have hp8 : r7.toInt = 0 := by rw [hp8]; decide
  refine v_iadd C dX4_listMarks_77 ?_
  refine v_top (fun x9 ex9 => ?_)
  have hx9 : x9.toInt = (((fa : Int) + 0) + 0) := by rw [ex9]; exact ti_add hx6 hp8 (by omega) (by omega)
  refine v_ast C 47 dX4_listMarks_78 (by omega) hE1_47 (ti_in (show (0 : Int32).toInt = 0 by decide) (by omega) (by omega)) (fun E10 hE10_47 oE10 => ?_)
  rw [ti_cl (show (0 : Int32).toInt = 0 by decide), show Int.toNat 0 = 0 by omega] at hE10_47
  have hE10_45 := (oE10 45 (by decide)).trans hE1_45
  have hE10_46 := (oE10 46 (by decide)).trans hE1_46
  refine v_aload_n C 0 dX4_listMarks_79 rfl rfl ?_
  refine v_dup C dX4_listMarks_80 rfl ?_
  refine v_geti (v := 0) C 45 dX4_listMarks_81 fX4_78 (by omega) hE10_45 rfl rfl ?_
  refine v_iconst (v := 1) C dX4_listMarks_84 (by decide) ?_
  refine v_iadd C dX4_listMarks_85 ?_
  refine v_eq (y := 1) (by decide) ?_
  refine v_puti C 45 dX4_listMarks_86 fX4_78 (by omega) hE10_45 rfl rfl rfl rfl (fun E11 hE11_45 oE11 => ?_)
  have hE11_46 := (oE11 46 (by decide)).trans hE10_46
  have hE11_47 := (oE11 47 (by decide)).trans hE10_47
  refine v_lload_n C 3 dX4_listMarks_89 rfl rfl ?_
  refine v_lload C 5 dX4_listMarks_90 rfl ?_
  refine v_lxor C dX4_listMarks_92 ?_
  refine v_eql (y := 0) (by decide) ?_
  refine v_lstore_n (lv' := [(0, .ref (ad 45)), (1, .int wd), (2, .int 0), (3, .long 0), (5, .int 0), (6, .long 1)]) C [1, 2, 3, 0, 4, 5] dX4_listMarks_93 rfl (by decide) rfl ?_
  refine v_iinc (v := 1) (lv' := [(0, .ref (ad 45)), (1, .int wd), (2, .int 0), (3, .long 0), (5, .int 1), (6, .long 1)]) C 4 [1, 2, 3, 4, 0, 5] dX4_listMarks_94 rfl (by decide) (by decide) rfl ?_
  refine v_goto C 22 dX4_listMarks_97 (by decide) ?_
  refine v_iload C 4 dX4_listMarks_22 rfl ?_
  refine v_bipush (v := 64) C dX4_listMarks_24 (by decide) ?_
  refine b_icmp_ge C 100 dX4_listMarks_26 (by decide) (show (1 : Int32).toInt = 1 by decide) (show (64 : Int32).toInt = 64 by decide) (fun c12 => absurd c12 (by decide)) (fun c12 => ?_)
  refine v_lload_n C 3 dX4_listMarks_29 rfl rfl ?_
  refine v_lconst (v := 0) C dX4_listMarks_30 (by decide) ?_
  refine v_lcmp C dX4_listMarks_31 ?_
  refine b_if_eq C 100 dX4_listMarks_32 (by decide) (rfl : Int32.toInt (lg_cmp 0 0) = _) (fun c13 => ?_) (fun c13 => absurd (by decide) c13)
  refine v_iinc (v := 1) (lv' := [(0, .ref (ad 45)), (1, .int wd), (2, .int 1), (3, .long 0), (5, .int 1), (6, .long 1)]) C 2 [1, 2, 0, 3, 4, 5] dX4_listMarks_100 rfl (by decide) (by decide) rfl ?_
  refine v_goto C 7 dX4_listMarks_103 (by decide) ?_
  refine v_iload_n C 2 dX4_listMarks_7 rfl rfl ?_
  refine v_iload_n C 1 dX4_listMarks_8 rfl rfl ?_
  refine b_icmp_ge C 106 dX4_listMarks_9 (by decide) (show (1 : Int32).toInt = 1 by decide) hwd (fun c14 => ?_) (fun c14 => by exfalso; omega)
  refine v_vret C dX4_listMarks_106 rfl ⟨_, _, hE11_45, (fun k hk => by simp only [va_up, if_neg hk]), (show (1 : Int32).toInt = _ by rw [if_pos (by omega)]; decide), hE11_47, ?_, ?_, fun j h5 h7 => ((oE11 j h5).trans ((oE10 j h7).trans (oE1 j h5)))⟩
  · show Int32.toInt ((upd lq 0 x9) 0) = _
    rw [show (upd lq 0 x9) 0 = x9 from rfl, hx9]; omega
  · intro h; omega

set_option maxRecDepth 20000 in
theorem c_list2 (l : Launch) (G : Gl) (n : Nat) (ad : Nat → Nat) (E : Nat → va_E) (hq : 48 ≤ n) {iq : Nat → Int32} (hE45 : E 45 = ob 4 (rfs ad [46, 47]) iq) {mk : Nat → Int64} (hE46 : E 46 = aJ G 31251 mk) {lq : Nat → Int32} (hE47 : E 47 = aI G 26002 lq) (wd : Int32) {fa D W : Nat} (hwd : wd.toInt = (W : Int)) (hfa : (iq 3).toInt = (fa : Int)) (hfb : fa < 60000000) (hDm : D ≤ 2000000) (he1 : 1 ≤ D) (he : D < 64) (hW : W = 1) (hm0 : mk 0 = 1 ||| pw D)  : CtV l G yX4_listMarks cX4_listMarks 8 1 21 n ad E [.ref (ad 45), .int wd] (fun E' => ∃ iq2 lq2 : Nat → Int32, E' 45 = ob 4 (rfs ad [46, 47]) iq2 ∧ (∀ k, k ≠ 2 → iq2 k = iq k) ∧ (iq2 2).toInt = (if D = 0 then 1 else 2) ∧ E' 47 = aI G 26002 lq2 ∧ (lq2 0).toInt = (fa : Int) ∧ (D ≠ 0 → (lq2 1).toInt = (fa : Int) + (D : Int)) ∧ ∀ j, j ≠ 45 → j ≠ 47 → E' j = E j) := by
  refine CtV.of (by decide) (Nat.le_of_ble_eq_true rfl) (fun X A C => ?_)
  refine v_sub (lv' := [(0, .ref (ad 45)), (1, .int wd)]) [0, 1] rfl ?_
  refine v_aload_n C 0 dX4_listMarks_0 rfl rfl ?_
  refine v_iconst (v := 0) C dX4_listMarks_1 (by decide) ?_
  refine v_puti C 45 dX4_listMarks_2 fX4_78 (by omega) hE45 rfl rfl rfl rfl (fun E1 hE1_45 oE1 => ?_)
  have hE1_46 := (oE1 46 (by decide)).trans hE46
  have hE1_47 := (oE1 47 (by decide)).trans hE47
  refine v_iconst (v := 0) C dX4_listMarks_5 (by decide) ?_
  refine v_istore_n (lv' := [(0, .ref (ad 45)), (1, .int wd), (2, .int 0)]) C [1, 2, 0] dX4_listMarks_6 rfl (by decide) rfl ?_
  refine v_iload_n C 2 dX4_listMarks_7 rfl rfl ?_
  refine v_iload_n C 1 dX4_listMarks_8 rfl rfl ?_
  refine b_icmp_ge C 106 dX4_listMarks_9 (by decide) (show (0 : Int32).toInt = 0 by decide) hwd (fun c2 => by exfalso; omega) (fun c2 => ?_)
  refine v_aload_n C 0 dX4_listMarks_12 rfl rfl ?_
  refine v_getr C 45 dX4_listMarks_13 fX4_9 (by omega) hE1_45 rfl rfl ?_
  refine v_iload_n C 2 dX4_listMarks_16 rfl rfl ?_
  refine v_jald (v := 1 ||| pw D) C 46 dX4_listMarks_17 (by omega) hE1_46 (ti_in (show (0 : Int32).toInt = 0 by decide) (by omega) (by omega)) ((congrArg mk (show Int32.toNatClampNeg 0 = 0 by decide)).trans hm0) ?_
  refine v_lstore_n (lv' := [(0, .ref (ad 45)), (1, .int wd), (2, .int 0), (3, .long (1 ||| pw D))]) C [1, 2, 3, 0] dX4_listMarks_18 rfl (by decide) rfl ?_
  refine v_iconst (v := 0) C dX4_listMarks_19 (by decide) ?_
  refine v_istore (lv' := [(0, .ref (ad 45)), (1, .int wd), (2, .int 0), (3, .long (1 ||| pw D)), (5, .int 0)]) C [1, 2, 3, 4, 0] dX4_listMarks_20 (by decide) rfl ?_
  refine v_iload C 4 dX4_listMarks_22 rfl ?_
  refine v_bipush (v := 64) C dX4_listMarks_24 (by decide) ?_
  refine b_icmp_ge C 100 dX4_listMarks_26 (by decide) (show (0 : Int32).toInt = 0 by decide) (show (64 : Int32).toInt = 64 by decide) (fun c3 => absurd c3 (by decide)) (fun c3 => ?_)
  refine v_lload_n C 3 dX4_listMarks_29 rfl rfl ?_
  refine v_lconst (v := 0) C dX4_listMarks_30 (by decide) ?_
  refine v_lcmp C dX4_listMarks_31 ?_
  refine b_if_eq C 100 dX4_listMarks_32 (by decide) (rfl : Int32.toInt (lg_cmp (1 ||| pw D) 0) = _) (fun c4 => absurd c4 (p2_cmp _ he he1)) (fun c4 => ?_)
  refine v_aload_n C 0 dX4_listMarks_35 rfl rfl ?_
  refine v_geti (v := 0) C 45 dX4_listMarks_36 fX4_78 (by omega) hE1_45 rfl rfl ?_
  refine v_aload_n C 0 dX4_listMarks_39 rfl rfl ?_
  refine v_getr C 45 dX4_listMarks_40 fX4_15 (by omega) hE1_45 rfl rfl ?_
  refine v_alenI (v := 26002) C 47 dX4_listMarks_43 (by omega) hE1_47 (by decide) ?_
  refine b_icmp_ge C 100 dX4_listMarks_44 (by decide) (show (0 : Int32).toInt = 0 by decide) (show (26002 : Int32).toInt = 26002 by decide) (fun c5 => absurd c5 (by decide)) (fun c5 => ?_)
  refine v_lload_n C 3 dX4_listMarks_47 rfl rfl ?_
  refine v_lload_n C 3 dX4_listMarks_48 rfl rfl ?_
  refine v_lneg C dX4_listMarks_49 ?_
  refine v_land C dX4_listMarks_50 ?_
  refine v_eql (y := 1) (p2_lo _ he he1) ?_
  refine v_lstore (lv' := [(0, .ref (ad 45)), (1, .int wd), (2, .int 0), (3, .long (1 ||| pw D)), (5, .int 0), (6, .long 1)]) C [1, 2, 3, 4, 5, 0] dX4_listMarks_51 (by decide) rfl ?_
  refine v_aload_n C 0 dX4_listMarks_53 rfl rfl ?_
  refine v_getr C 45 dX4_listMarks_54 fX4_15 (by omega) hE1_45 rfl rfl ?_
  refine v_aload_n C 0 dX4_listMarks_57 rfl rfl ?_
  refine v_geti (v := 0) C 45 dX4_listMarks_58 fX4_78 (by omega) hE1_45 rfl rfl ?_
  refine v_aload_n C 0 dX4_listMarks_61 rfl rfl ?_
  refine v_geti (v := iq 3) C 45 dX4_listMarks_62 fX4_23 (by omega) hE1_45 rfl rfl ?_
  refine v_iload_n C 2 dX4_listMarks_65 rfl rfl ?_
  refine v_bipush (v := 64) C dX4_listMarks_66 (by decide) ?_
  refine v_imul C dX4_listMarks_68 ?_
  refine v_eq (y := 0) (by decide) ?_
  refine v_iadd C dX4_listMarks_69 ?_
  refine v_top (fun x6 ex6 => ?_)
  have hx6 : x6.toInt = ((fa : Int) + 0) := by rw [ex6]; exact ti_add hfa (show (0 : Int32).toInt = 0 by decide) (by omega) (by omega)
  refine v_lload C 5 dX4_listMarks_70 rfl ?_
  refine v_lconst (v := 1) C dX4_listMarks_72 (by decide) ?_
  refine v_lsub C dX4_listMarks_73 ?_
  refine v_eql (y := 0) (by decide) ?_
  refine v_cSp C dX4_listMarks_74 lX4_81 mJ13_bitCount_95d88 (c_bitCount l G n ad _ 0) ⟨by decide, by decide⟩ rfl (Nat.le_of_ble_eq_true rfl) ⟨Nat.zero_le _, Nat.zero_le _⟩ (fun r7 hp8 => ?_)
  have hp8 : r7.toInt = 0 := by rw [hp8]; decide
  refine v_iadd C dX4_listMarks_77 ?_
  refine v_top (fun x9 ex9 => ?_)
  have hx9 : x9.toInt = (((fa : Int) + 0) + 0) := by rw [ex9]; exact ti_add hx6 hp8 (by omega) (by omega)
  refine v_ast C 47 dX4_listMarks_78 (by omega) hE1_47 (ti_in (show (0 : Int32).toInt = 0 by decide) (by omega) (by omega)) (fun E10 hE10_47 oE10 => ?_)
  rw [ti_cl (show (0 : Int32).toInt = 0 by decide), show Int.toNat 0 = 0 by omega] at hE10_47
  have hE10_45 := (oE10 45 (by decide)).trans hE1_45
  have hE10_46 := (oE10 46 (by decide)).trans hE1_46
  refine v_aload_n C 0 dX4_listMarks_79 rfl rfl ?_
  refine v_dup C dX4_listMarks_80 rfl ?_
  refine v_geti (v := 0) C 45 dX4_listMarks_81 fX4_78 (by omega) hE10_45 rfl rfl ?_
  refine v_iconst (v := 1) C dX4_listMarks_84 (by decide) ?_
  refine v_iadd C dX4_listMarks_85 ?_
  refine v_eq (y := 1) (by decide) ?_
  refine v_puti C 45 dX4_listMarks_86 fX4_78 (by omega) hE10_45 rfl rfl rfl rfl (fun E11 hE11_45 oE11 => ?_)
  have hE11_46 := (oE11 46 (by decide)).trans hE10_46
  have hE11_47 := (oE11 47 (by decide)).trans hE10_47
  refine v_lload_n C 3 dX4_listMarks_89 rfl rfl ?_
  refine v_lload C 5 dX4_listMarks_90 rfl ?_
  refine v_lxor C dX4_listMarks_92 ?_
  refine v_eql (y := pw D) (p2_x _ he he1) ?_
  refine v_lstore_n (lv' := [(0, .ref (ad 45)), (1, .int wd), (2, .int 0), (3, .long (pw D)), (5, .int 0), (6, .long 1)]) C [1, 2, 3, 0, 4, 5] dX4_listMarks_93 rfl (by decide) rfl ?_
  refine v_iinc (v := 1) (lv' := [(0, .ref (ad 45)), (1, .int wd), (2, .int 0), (3, .long (pw D)), (5, .int 1), (6, .long 1)]) C 4 [1, 2, 3, 4, 0, 5] dX4_listMarks_94 rfl (by decide) (by decide) rfl ?_
  refine v_goto C 22 dX4_listMarks_97 (by decide) ?_
  refine v_iload C 4 dX4_listMarks_22 rfl ?_
  refine v_bipush (v := 64) C dX4_listMarks_24 (by decide) ?_
  refine b_icmp_ge C 100 dX4_listMarks_26 (by decide) (show (1 : Int32).toInt = 1 by decide) (show (64 : Int32).toInt = 64 by decide) (fun c12 => absurd c12 (by decide)) (fun c12 => ?_)
  refine v_lload_n C 3 dX4_listMarks_29 rfl rfl ?_
  refine v_lconst (v := 0) C dX4_listMarks_30 (by decide) ?_
  refine v_lcmp C dX4_listMarks_31 ?_
  refine b_if_eq C 100 dX4_listMarks_32 (by decide) (rfl : Int32.toInt (lg_cmp (pw D) 0) = _) (fun c13 => absurd c13 (pw_cmp _ he)) (fun c13 => ?_)
  refine v_aload_n C 0 dX4_listMarks_35 rfl rfl ?_
  refine v_geti (v := 1) C 45 dX4_listMarks_36 fX4_78 (by omega) hE11_45 rfl rfl ?_
  refine v_aload_n C 0 dX4_listMarks_39 rfl rfl ?_
  refine v_getr C 45 dX4_listMarks_40 fX4_15 (by omega) hE11_45 rfl rfl ?_
  refine v_alenI (v := 26002) C 47 dX4_listMarks_43 (by omega) hE11_47 (by decide) ?_
  refine b_icmp_ge C 100 dX4_listMarks_44 (by decide) (show (1 : Int32).toInt = 1 by decide) (show (26002 : Int32).toInt = 26002 by decide) (fun c14 => absurd c14 (by decide)) (fun c14 => ?_)
  refine v_lload_n C 3 dX4_listMarks_47 rfl rfl ?_
  refine v_lload_n C 3 dX4_listMarks_48 rfl rfl ?_
  refine v_lneg C dX4_listMarks_49 ?_
  refine v_land C dX4_listMarks_50 ?_
  refine v_eql (y := pw D) (pw_lo _ he) ?_
  refine v_lstore (lv' := [(0, .ref (ad 45)), (1, .int wd), (2, .int 0), (3, .long (pw D)), (5, .int 1), (6, .long (pw D))]) C [1, 2, 3, 4, 5, 0] dX4_listMarks_51 (by decide) rfl ?_
  refine v_aload_n C 0 dX4_listMarks_53 rfl rfl ?_
  refine v_getr C 45 dX4_listMarks_54 fX4_15 (by omega) hE11_45 rfl rfl ?_
  refine v_aload_n C 0 dX4_listMarks_57 rfl rfl ?_
  refine v_geti (v := 1) C 45 dX4_listMarks_58 fX4_78 (by omega) hE11_45 rfl rfl ?_
  refine v_aload_n C 0 dX4_listMarks_61 rfl rfl ?_
  refine v_geti (v := iq 3) C 45 dX4_listMarks_62 fX4_23 (by omega) hE11_45 rfl rfl ?_
  refine v_iload_n C 2 dX4_listMarks_65 rfl rfl ?_
  refine v_bipush (v := 64) C dX4_listMarks_66 (by decide) ?_
  refine v_imul C dX4_listMarks_68 ?_
  refine v_eq (y := 0) (by decide) ?_
  refine v_iadd C dX4_listMarks_69 ?_
  refine v_top (fun x15 ex15 => ?_)
  have hx15 : x15.toInt = ((fa : Int) + 0) := by rw [ex15]; exact ti_add hfa (show (0 : Int32).toInt = 0 by decide) (by omega) (by omega)
  refine v_lload C 5 dX4_listMarks_70 rfl ?_
  refine v_lconst (v := 1) C dX4_listMarks_72 (by decide) ?_
  refine v_lsub C dX4_listMarks_73 ?_
  refine v_cSp C dX4_listMarks_74 lX4_81 mJ13_bitCount_95d88 (c_bitCount l G n ad _ ((pw D) - 1)) ⟨by decide, by decide⟩ rfl (Nat.le_of_ble_eq_true rfl) ⟨Nat.zero_le _, Nat.zero_le _⟩ (fun r16 hp17 => ?_)
  have hp17 : r16.toInt = ((D : Nat) : Int) := by rw [hp17]; exact pw_bc D he
  refine v_iadd C dX4_listMarks_77 ?_
  refine v_top (fun x18 ex18 => ?_)
  have hx18 : x18.toInt = (((fa : Int) + 0) + ((D : Nat) : Int)) := by rw [ex18]; exact ti_add hx15 hp17 (by omega) (by omega)
  refine v_ast C 47 dX4_listMarks_78 (by omega) hE11_47 (ti_in (show (1 : Int32).toInt = 1 by decide) (by omega) (by omega)) (fun E19 hE19_47 oE19 => ?_)
  rw [ti_cl (show (1 : Int32).toInt = 1 by decide), show Int.toNat 1 = 1 by omega] at hE19_47
  have hE19_45 := (oE19 45 (by decide)).trans hE11_45
  have hE19_46 := (oE19 46 (by decide)).trans hE11_46
  refine v_aload_n C 0 dX4_listMarks_79 rfl rfl ?_
  refine v_dup C dX4_listMarks_80 rfl ?_
  refine v_geti (v := 1) C 45 dX4_listMarks_81 fX4_78 (by omega) hE19_45 rfl rfl ?_
  refine v_iconst (v := 1) C dX4_listMarks_84 (by decide) ?_
  refine v_iadd C dX4_listMarks_85 ?_
  refine v_eq (y := 2) (by decide) ?_
  refine v_puti C 45 dX4_listMarks_86 fX4_78 (by omega) hE19_45 rfl rfl rfl rfl (fun E20 hE20_45 oE20 => ?_)
  have hE20_46 := (oE20 46 (by decide)).trans hE19_46
  have hE20_47 := (oE20 47 (by decide)).trans hE19_47
  refine v_lload_n C 3 dX4_listMarks_89 rfl rfl ?_
  refine v_lload C 5 dX4_listMarks_90 rfl ?_
  refine v_lxor C dX4_listMarks_92 ?_
  refine v_eql (y := 0) (pw_x _ he) ?_
  refine v_lstore_n (lv' := [(0, .ref (ad 45)), (1, .int wd), (2, .int 0), (3, .long 0), (5, .int 1), (6, .long (pw D))]) C [1, 2, 3, 0, 4, 5] dX4_listMarks_93 rfl (by decide) rfl ?_
  refine v_iinc (v := 2) (lv' := [(0, .ref (ad 45)), (1, .int wd), (2, .int 0), (3, .long 0), (5, .int 2), (6, .long (pw D))]) C 4 [1, 2, 3, 4, 0, 5] dX4_listMarks_94 rfl (by decide) (by decide) rfl ?_
  refine v_goto C 22 dX4_listMarks_97 (by decide) ?_
  refine v_iload C 4 dX4_listMarks_22 rfl ?_
  refine v_bipush (v := 64) C dX4_listMarks_24 (by decide) ?_
  refine b_icmp_ge C 100 dX4_listMarks_26 (by decide) (show (2 : Int32).toInt = 2 by decide) (show (64 : Int32).toInt = 64 by decide) (fun c21 => absurd c21 (by decide)) (fun c21 => ?_)
  refine v_lload_n C 3 dX4_listMarks_29 rfl rfl ?_
  refine v_lconst (v := 0) C dX4_listMarks_30 (by decide) ?_
  refine v_lcmp C dX4_listMarks_31 ?_
  refine b_if_eq C 100 dX4_listMarks_32 (by decide) (rfl : Int32.toInt (lg_cmp 0 0) = _) (fun c22 => ?_) (fun c22 => absurd (by decide) c22)
  refine v_iinc (v := 1) (lv' := [(0, .ref (ad 45)), (1, .int wd), (2, .int 1), (3, .long 0), (5, .int 2), (6, .long (pw D))]) C 2 [1, 2, 0, 3, 4, 5] dX4_listMarks_100 rfl (by decide) (by decide) rfl ?_
  refine v_goto C 7 dX4_listMarks_103 (by decide) ?_
  refine v_iload_n C 2 dX4_listMarks_7 rfl rfl ?_
  refine v_iload_n C 1 dX4_listMarks_8 rfl rfl ?_
  refine b_icmp_ge C 106 dX4_listMarks_9 (by decide) (show (1 : Int32).toInt = 1 by decide) hwd (fun c23 => ?_) (fun c23 => by exfalso; omega)
  refine v_vret C dX4_listMarks_106 rfl ⟨_, _, hE20_45, (fun k hk => by simp only [va_up, if_neg hk]), (show (2 : Int32).toInt = _ by rw [if_neg (by omega)]; decide), hE20_47, ?_, ?_, fun j h5 h7 => ((oE20 j h5).trans ((oE19 j h7).trans ((oE11 j h5).trans ((oE10 j h7).trans (oE1 j h5)))))⟩
  · show Int32.toInt ((upd (upd lq 0 x9) 1 x18) 0) = _
    rw [show (upd (upd lq 0 x9) 1 x18) 0 = x9 from rfl, hx9]; omega
  · intro _; rw [show (upd (upd lq 0 x9) 1 x18) 1 = x18 from rfl, hx18]; omega

set_option maxRecDepth 20000 in
theorem c_list3 (l : Launch) (G : Gl) (n : Nat) (ad : Nat → Nat) (E : Nat → va_E) (hq : 48 ≤ n) {iq : Nat → Int32} (hE45 : E 45 = ob 4 (rfs ad [46, 47]) iq) {mk : Nat → Int64} (hE46 : E 46 = aJ G 31251 mk) {lq : Nat → Int32} (hE47 : E 47 = aI G 26002 lq) (wd : Int32) {fa D W : Nat} (hwd : wd.toInt = (W : Int)) (hfa : (iq 3).toInt = (fa : Int)) (hfb : fa < 60000000) (hDm : D ≤ 2000000) (hD : 64 ≤ D) (he : D % 64 < 64) (hW : W = D / 64 + 1) (hm0 : mk 0 = 1) (hmq : mk (D / 64) = pw (D % 64)) (hmz : ∀ j, 1 ≤ j → j < D / 64 → mk j = 0)  : CtV l G yX4_listMarks cX4_listMarks 8 1 21 n ad E [.ref (ad 45), .int wd] (fun E' => ∃ iq2 lq2 : Nat → Int32, E' 45 = ob 4 (rfs ad [46, 47]) iq2 ∧ (∀ k, k ≠ 2 → iq2 k = iq k) ∧ (iq2 2).toInt = (if D = 0 then 1 else 2) ∧ E' 47 = aI G 26002 lq2 ∧ (lq2 0).toInt = (fa : Int) ∧ (D ≠ 0 → (lq2 1).toInt = (fa : Int) + (D : Int)) ∧ ∀ j, j ≠ 45 → j ≠ 47 → E' j = E j) := by
  refine CtV.of (by decide) (Nat.le_of_ble_eq_true rfl) (fun X A C => ?_)
  refine v_sub (lv' := [(0, .ref (ad 45)), (1, .int wd)]) [0, 1] rfl ?_
  refine v_aload_n C 0 dX4_listMarks_0 rfl rfl ?_
  refine v_iconst (v := 0) C dX4_listMarks_1 (by decide) ?_
  refine v_puti C 45 dX4_listMarks_2 fX4_78 (by omega) hE45 rfl rfl rfl rfl (fun E1 hE1_45 oE1 => ?_)
  have hE1_46 := (oE1 46 (by decide)).trans hE46
  have hE1_47 := (oE1 47 (by decide)).trans hE47
  refine v_iconst (v := 0) C dX4_listMarks_5 (by decide) ?_
  refine v_istore_n (lv' := [(0, .ref (ad 45)), (1, .int wd), (2, .int 0)]) C [1, 2, 0] dX4_listMarks_6 rfl (by decide) rfl ?_
  refine v_iload_n C 2 dX4_listMarks_7 rfl rfl ?_
  refine v_iload_n C 1 dX4_listMarks_8 rfl rfl ?_
  refine b_icmp_ge C 106 dX4_listMarks_9 (by decide) (show (0 : Int32).toInt = 0 by decide) hwd (fun c2 => by exfalso; omega) (fun c2 => ?_)
  refine v_aload_n C 0 dX4_listMarks_12 rfl rfl ?_
  refine v_getr C 45 dX4_listMarks_13 fX4_9 (by omega) hE1_45 rfl rfl ?_
  refine v_iload_n C 2 dX4_listMarks_16 rfl rfl ?_
  refine v_jald (v := 1) C 46 dX4_listMarks_17 (by omega) hE1_46 (ti_in (show (0 : Int32).toInt = 0 by decide) (by omega) (by omega)) ((congrArg mk (show Int32.toNatClampNeg 0 = 0 by decide)).trans hm0) ?_
  refine v_lstore_n (lv' := [(0, .ref (ad 45)), (1, .int wd), (2, .int 0), (3, .long 1)]) C [1, 2, 3, 0] dX4_listMarks_18 rfl (by decide) rfl ?_
  refine v_iconst (v := 0) C dX4_listMarks_19 (by decide) ?_
  refine v_istore (lv' := [(0, .ref (ad 45)), (1, .int wd), (2, .int 0), (3, .long 1), (5, .int 0)]) C [1, 2, 3, 4, 0] dX4_listMarks_20 (by decide) rfl ?_
  refine v_iload C 4 dX4_listMarks_22 rfl ?_
  refine v_bipush (v := 64) C dX4_listMarks_24 (by decide) ?_
  refine b_icmp_ge C 100 dX4_listMarks_26 (by decide) (show (0 : Int32).toInt = 0 by decide) (show (64 : Int32).toInt = 64 by decide) (fun c3 => absurd c3 (by decide)) (fun c3 => ?_)
  refine v_lload_n C 3 dX4_listMarks_29 rfl rfl ?_
  refine v_lconst (v := 0) C dX4_listMarks_30 (by decide) ?_
  refine v_lcmp C dX4_listMarks_31 ?_
  refine b_if_eq C 100 dX4_listMarks_32 (by decide) (rfl : Int32.toInt (lg_cmp 1 0) = _) (fun c4 => absurd c4 (by decide)) (fun c4 => ?_)
  refine v_aload_n C 0 dX4_listMarks_35 rfl rfl ?_
  refine v_geti (v := 0) C 45 dX4_listMarks_36 fX4_78 (by omega) hE1_45 rfl rfl ?_
  refine v_aload_n C 0 dX4_listMarks_39 rfl rfl ?_
  refine v_getr C 45 dX4_listMarks_40 fX4_15 (by omega) hE1_45 rfl rfl ?_
  refine v_alenI (v := 26002) C 47 dX4_listMarks_43 (by omega) hE1_47 (by decide) ?_
  refine b_icmp_ge C 100 dX4_listMarks_44 (by decide) (show (0 : Int32).toInt = 0 by decide) (show (26002 : Int32).toInt = 26002 by decide) (fun c5 => absurd c5 (by decide)) (fun c5 => ?_)
  refine v_lload_n C 3 dX4_listMarks_47 rfl rfl ?_
  refine v_lload_n C 3 dX4_listMarks_48 rfl rfl ?_
  refine v_lneg C dX4_listMarks_49 ?_
  refine v_land C dX4_listMarks_50 ?_
  refine v_eql (y := 1) (by decide) ?_
  refine v_lstore (lv' := [(0, .ref (ad 45)), (1, .int wd), (2, .int 0), (3, .long 1), (5, .int 0), (6, .long 1)]) C [1, 2, 3, 4, 5, 0] dX4_listMarks_51 (by decide) rfl ?_
  refine v_aload_n C 0 dX4_listMarks_53 rfl rfl ?_
  refine v_getr C 45 dX4_listMarks_54 fX4_15 (by omega) hE1_45 rfl rfl ?_
  refine v_aload_n C 0 dX4_listMarks_57 rfl rfl ?_
  refine v_geti (v := 0) C 45 dX4_listMarks_58 fX4_78 (by omega) hE1_45 rfl rfl ?_
  refine v_aload_n C 0 dX4_listMarks_61 rfl rfl ?_
  refine v_geti (v := iq 3) C 45 dX4_listMarks_62 fX4_23 (by omega) hE1_45 rfl rfl ?_
  refine v_iload_n C 2 dX4_listMarks_65 rfl rfl ?_
  refine v_bipush (v := 64) C dX4_listMarks_66 (by decide) ?_
  refine v_imul C dX4_listMarks_68 ?_
  refine v_eq (y := 0) (by decide) ?_
  refine v_iadd C dX4_listMarks_69 ?_
  refine v_top (fun x6 ex6 => ?_)
  have hx6 : x6.toInt = ((fa : Int) + 0) := by rw [ex6]; exact ti_add hfa (show (0 : Int32).toInt = 0 by decide) (by omega) (by omega)
  refine v_lload C 5 dX4_listMarks_70 rfl ?_
  refine v_lconst (v := 1) C dX4_listMarks_72 (by decide) ?_
  refine v_lsub C dX4_listMarks_73 ?_
  refine v_eql (y := 0) (by decide) ?_
  refine v_cSp C dX4_listMarks_74 lX4_81 mJ13_bitCount_95d88 (c_bitCount l G n ad _ 0) ⟨by decide, by decide⟩ rfl (Nat.le_of_ble_eq_true rfl) ⟨Nat.zero_le _, Nat.zero_le _⟩ (fun r7 hp8 => ?_)
  have hp8 : r7.toInt = 0 := by rw [hp8]; decide
  refine v_iadd C dX4_listMarks_77 ?_
  refine v_top (fun x9 ex9 => ?_)
  have hx9 : x9.toInt = (((fa : Int) + 0) + 0) := by rw [ex9]; exact ti_add hx6 hp8 (by omega) (by omega)
  refine v_ast C 47 dX4_listMarks_78 (by omega) hE1_47 (ti_in (show (0 : Int32).toInt = 0 by decide) (by omega) (by omega)) (fun E10 hE10_47 oE10 => ?_)
  rw [ti_cl (show (0 : Int32).toInt = 0 by decide), show Int.toNat 0 = 0 by omega] at hE10_47
  have hE10_45 := (oE10 45 (by decide)).trans hE1_45
  have hE10_46 := (oE10 46 (by decide)).trans hE1_46
  refine v_aload_n C 0 dX4_listMarks_79 rfl rfl ?_
  refine v_dup C dX4_listMarks_80 rfl ?_
  refine v_geti (v := 0) C 45 dX4_listMarks_81 fX4_78 (by omega) hE10_45 rfl rfl ?_
  refine v_iconst (v := 1) C dX4_listMarks_84 (by decide) ?_
  refine v_iadd C dX4_listMarks_85 ?_
  refine v_eq (y := 1) (by decide) ?_
  refine v_puti C 45 dX4_listMarks_86 fX4_78 (by omega) hE10_45 rfl rfl rfl rfl (fun E11 hE11_45 oE11 => ?_)
  have hE11_46 := (oE11 46 (by decide)).trans hE10_46
  have hE11_47 := (oE11 47 (by decide)).trans hE10_47
  refine v_lload_n C 3 dX4_listMarks_89 rfl rfl ?_
  refine v_lload C 5 dX4_listMarks_90 rfl ?_
  refine v_lxor C dX4_listMarks_92 ?_
  refine v_eql (y := 0) (by decide) ?_
  refine v_lstore_n (lv' := [(0, .ref (ad 45)), (1, .int wd), (2, .int 0), (3, .long 0), (5, .int 0), (6, .long 1)]) C [1, 2, 3, 0, 4, 5] dX4_listMarks_93 rfl (by decide) rfl ?_
  refine v_iinc (v := 1) (lv' := [(0, .ref (ad 45)), (1, .int wd), (2, .int 0), (3, .long 0), (5, .int 1), (6, .long 1)]) C 4 [1, 2, 3, 4, 0, 5] dX4_listMarks_94 rfl (by decide) (by decide) rfl ?_
  refine v_goto C 22 dX4_listMarks_97 (by decide) ?_
  refine v_iload C 4 dX4_listMarks_22 rfl ?_
  refine v_bipush (v := 64) C dX4_listMarks_24 (by decide) ?_
  refine b_icmp_ge C 100 dX4_listMarks_26 (by decide) (show (1 : Int32).toInt = 1 by decide) (show (64 : Int32).toInt = 64 by decide) (fun c12 => absurd c12 (by decide)) (fun c12 => ?_)
  refine v_lload_n C 3 dX4_listMarks_29 rfl rfl ?_
  refine v_lconst (v := 0) C dX4_listMarks_30 (by decide) ?_
  refine v_lcmp C dX4_listMarks_31 ?_
  refine b_if_eq C 100 dX4_listMarks_32 (by decide) (rfl : Int32.toInt (lg_cmp 0 0) = _) (fun c13 => ?_) (fun c13 => absurd (by decide) c13)
  refine v_iinc (v := 1) (lv' := [(0, .ref (ad 45)), (1, .int wd), (2, .int 1), (3, .long 0), (5, .int 1), (6, .long 1)]) C 2 [1, 2, 0, 3, 4, 5] dX4_listMarks_100 rfl (by decide) (by decide) rfl ?_
  refine v_goto C 7 dX4_listMarks_103 (by decide) ?_
  refine v_sub (lv' := [(0, .ref (ad 45)), (1, .int wd), (2, .int 1)]) [0, 1, 2] rfl ?_
  refine lp_zero C _ hq hE11_45 hE11_46 wd (m := D / 64) hwd (by omega) (by omega) (fun z2 hz2 => ?_) (D / 64 - 1) 1 1 (by omega) (show (1 : Int32).toInt = 1 by decide) (fun j h1 h2 => hmz j h1 h2)
  refine v_iload_n C 2 dX4_listMarks_7 rfl rfl ?_
  refine v_iload_n C 1 dX4_listMarks_8 rfl rfl ?_
  refine b_icmp_ge C 106 dX4_listMarks_9 (by decide) hz2 hwd (fun c14 => by exfalso; omega) (fun c14 => ?_)
  refine v_aload_n C 0 dX4_listMarks_12 rfl rfl ?_
  refine v_getr C 45 dX4_listMarks_13 fX4_9 (by omega) hE11_45 rfl rfl ?_
  refine v_iload_n C 2 dX4_listMarks_16 rfl rfl ?_
  refine v_jald (v := pw (D % 64)) C 46 dX4_listMarks_17 (by omega) hE11_46 (ti_in hz2 (by omega) (by omega)) (by rw [ti_cl hz2, show Int.toNat (D / 64 : Nat) = D / 64 by omega]; exact hmq) ?_
  refine v_lstore_n (lv' := [(0, .ref (ad 45)), (1, .int wd), (2, .int z2), (3, .long (pw (D % 64)))]) C [1, 2, 3, 0] dX4_listMarks_18 rfl (by decide) rfl ?_
  refine v_iconst (v := 0) C dX4_listMarks_19 (by decide) ?_
  refine v_istore (lv' := [(0, .ref (ad 45)), (1, .int wd), (2, .int z2), (3, .long (pw (D % 64))), (5, .int 0)]) C [1, 2, 3, 4, 0] dX4_listMarks_20 (by decide) rfl ?_
  refine v_iload C 4 dX4_listMarks_22 rfl ?_
  refine v_bipush (v := 64) C dX4_listMarks_24 (by decide) ?_
  refine b_icmp_ge C 100 dX4_listMarks_26 (by decide) (show (0 : Int32).toInt = 0 by decide) (show (64 : Int32).toInt = 64 by decide) (fun c15 => absurd c15 (by decide)) (fun c15 => ?_)
  refine v_lload_n C 3 dX4_listMarks_29 rfl rfl ?_
  refine v_lconst (v := 0) C dX4_listMarks_30 (by decide) ?_
  refine v_lcmp C dX4_listMarks_31 ?_
  refine b_if_eq C 100 dX4_listMarks_32 (by decide) (rfl : Int32.toInt (lg_cmp (pw (D % 64)) 0) = _) (fun c16 => absurd c16 (pw_cmp _ he)) (fun c16 => ?_)
  refine v_aload_n C 0 dX4_listMarks_35 rfl rfl ?_
  refine v_geti (v := 1) C 45 dX4_listMarks_36 fX4_78 (by omega) hE11_45 rfl rfl ?_
  refine v_aload_n C 0 dX4_listMarks_39 rfl rfl ?_
  refine v_getr C 45 dX4_listMarks_40 fX4_15 (by omega) hE11_45 rfl rfl ?_
  refine v_alenI (v := 26002) C 47 dX4_listMarks_43 (by omega) hE11_47 (by decide) ?_
  refine b_icmp_ge C 100 dX4_listMarks_44 (by decide) (show (1 : Int32).toInt = 1 by decide) (show (26002 : Int32).toInt = 26002 by decide) (fun c17 => absurd c17 (by decide)) (fun c17 => ?_)
  refine v_lload_n C 3 dX4_listMarks_47 rfl rfl ?_
  refine v_lload_n C 3 dX4_listMarks_48 rfl rfl ?_
  refine v_lneg C dX4_listMarks_49 ?_
  refine v_land C dX4_listMarks_50 ?_
  refine v_eql (y := pw (D % 64)) (pw_lo _ he) ?_
  refine v_lstore (lv' := [(0, .ref (ad 45)), (1, .int wd), (2, .int z2), (3, .long (pw (D % 64))), (5, .int 0), (6, .long (pw (D % 64)))]) C [1, 2, 3, 4, 5, 0] dX4_listMarks_51 (by decide) rfl ?_
  refine v_aload_n C 0 dX4_listMarks_53 rfl rfl ?_
  refine v_getr C 45 dX4_listMarks_54 fX4_15 (by omega) hE11_45 rfl rfl ?_
  refine v_aload_n C 0 dX4_listMarks_57 rfl rfl ?_
  refine v_geti (v := 1) C 45 dX4_listMarks_58 fX4_78 (by omega) hE11_45 rfl rfl ?_
  refine v_aload_n C 0 dX4_listMarks_61 rfl rfl ?_
  refine v_geti (v := iq 3) C 45 dX4_listMarks_62 fX4_23 (by omega) hE11_45 rfl rfl ?_
  refine v_iload_n C 2 dX4_listMarks_65 rfl rfl ?_
  refine v_bipush (v := 64) C dX4_listMarks_66 (by decide) ?_
  refine v_imul C dX4_listMarks_68 ?_
  refine v_top (fun x18 ex18 => ?_)
  have hx18 : x18.toInt = (((D / 64 : Nat) : Int) * 64) := by rw [ex18]; exact ti_mul hz2 (show (64 : Int32).toInt = 64 by decide) (by omega) (by omega)
  refine v_iadd C dX4_listMarks_69 ?_
  refine v_top (fun x19 ex19 => ?_)
  have hx19 : x19.toInt = ((fa : Int) + (((D / 64 : Nat) : Int) * 64)) := by rw [ex19]; exact ti_add hfa hx18 (by omega) (by omega)
  refine v_lload C 5 dX4_listMarks_70 rfl ?_
  refine v_lconst (v := 1) C dX4_listMarks_72 (by decide) ?_
  refine v_lsub C dX4_listMarks_73 ?_
  refine v_cSp C dX4_listMarks_74 lX4_81 mJ13_bitCount_95d88 (c_bitCount l G n ad _ ((pw (D % 64)) - 1)) ⟨by decide, by decide⟩ rfl (Nat.le_of_ble_eq_true rfl) ⟨Nat.zero_le _, Nat.zero_le _⟩ (fun r20 hp21 => ?_)
  have hp21 : r20.toInt = ((D % 64 : Nat) : Int) := by rw [hp21]; exact pw_bc (D % 64) he
  refine v_iadd C dX4_listMarks_77 ?_
  refine v_top (fun x22 ex22 => ?_)
  have hx22 : x22.toInt = (((fa : Int) + (((D / 64 : Nat) : Int) * 64)) + ((D % 64 : Nat) : Int)) := by rw [ex22]; exact ti_add hx19 hp21 (by omega) (by omega)
  refine v_ast C 47 dX4_listMarks_78 (by omega) hE11_47 (ti_in (show (1 : Int32).toInt = 1 by decide) (by omega) (by omega)) (fun E23 hE23_47 oE23 => ?_)
  rw [ti_cl (show (1 : Int32).toInt = 1 by decide), show Int.toNat 1 = 1 by omega] at hE23_47
  have hE23_45 := (oE23 45 (by decide)).trans hE11_45
  have hE23_46 := (oE23 46 (by decide)).trans hE11_46
  refine v_aload_n C 0 dX4_listMarks_79 rfl rfl ?_
  refine v_dup C dX4_listMarks_80 rfl ?_
  refine v_geti (v := 1) C 45 dX4_listMarks_81 fX4_78 (by omega) hE23_45 rfl rfl ?_
  refine v_iconst (v := 1) C dX4_listMarks_84 (by decide) ?_
  refine v_iadd C dX4_listMarks_85 ?_
  refine v_eq (y := 2) (by decide) ?_
  refine v_puti C 45 dX4_listMarks_86 fX4_78 (by omega) hE23_45 rfl rfl rfl rfl (fun E24 hE24_45 oE24 => ?_)
  have hE24_46 := (oE24 46 (by decide)).trans hE23_46
  have hE24_47 := (oE24 47 (by decide)).trans hE23_47
  refine v_lload_n C 3 dX4_listMarks_89 rfl rfl ?_
  refine v_lload C 5 dX4_listMarks_90 rfl ?_
  refine v_lxor C dX4_listMarks_92 ?_
  refine v_eql (y := 0) (pw_x _ he) ?_
  refine v_lstore_n (lv' := [(0, .ref (ad 45)), (1, .int wd), (2, .int z2), (3, .long 0), (5, .int 0), (6, .long (pw (D % 64)))]) C [1, 2, 3, 0, 4, 5] dX4_listMarks_93 rfl (by decide) rfl ?_
  refine v_iinc (v := 1) (lv' := [(0, .ref (ad 45)), (1, .int wd), (2, .int z2), (3, .long 0), (5, .int 1), (6, .long (pw (D % 64)))]) C 4 [1, 2, 3, 4, 0, 5] dX4_listMarks_94 rfl (by decide) (by decide) rfl ?_
  refine v_goto C 22 dX4_listMarks_97 (by decide) ?_
  refine v_iload C 4 dX4_listMarks_22 rfl ?_
  refine v_bipush (v := 64) C dX4_listMarks_24 (by decide) ?_
  refine b_icmp_ge C 100 dX4_listMarks_26 (by decide) (show (1 : Int32).toInt = 1 by decide) (show (64 : Int32).toInt = 64 by decide) (fun c25 => absurd c25 (by decide)) (fun c25 => ?_)
  refine v_lload_n C 3 dX4_listMarks_29 rfl rfl ?_
  refine v_lconst (v := 0) C dX4_listMarks_30 (by decide) ?_
  refine v_lcmp C dX4_listMarks_31 ?_
  refine b_if_eq C 100 dX4_listMarks_32 (by decide) (rfl : Int32.toInt (lg_cmp 0 0) = _) (fun c26 => ?_) (fun c26 => absurd (by decide) c26)
  obtain ⟨x27, ex27⟩ : ∃ y : Int32, y = z2 + 1 := ⟨_, rfl⟩
  have hx27 : x27.toInt = (((D / 64 : Nat) : Int) + 1) := by rw [ex27]; exact ti_add hz2 (show (1 : Int32).toInt = 1 by decide) (by omega) (by omega)
  refine v_iinc (v := x27) (lv' := [(0, .ref (ad 45)), (1, .int wd), (2, .int x27), (3, .long 0), (5, .int 1), (6, .long (pw (D % 64)))]) C 2 [1, 2, 0, 3, 4, 5] dX4_listMarks_100 rfl (ex27.symm) (by decide) rfl ?_
  refine v_goto C 7 dX4_listMarks_103 (by decide) ?_
  refine v_iload_n C 2 dX4_listMarks_7 rfl rfl ?_
  refine v_iload_n C 1 dX4_listMarks_8 rfl rfl ?_
  refine b_icmp_ge C 106 dX4_listMarks_9 (by decide) hx27 hwd (fun c28 => ?_) (fun c28 => by exfalso; omega)
  refine v_vret C dX4_listMarks_106 rfl ⟨_, _, hE24_45, (fun k hk => by simp only [va_up, if_neg hk]), (show (2 : Int32).toInt = _ by rw [if_neg (by omega)]; decide), hE24_47, ?_, ?_, fun j h5 h7 => ((oE24 j h5).trans ((oE23 j h7).trans ((oE11 j h5).trans ((oE10 j h7).trans (oE1 j h5)))))⟩
  · show Int32.toInt ((upd (upd lq 0 x9) 1 x22) 0) = _
    rw [show (upd (upd lq 0 x9) 1 x22) 0 = x9 from rfl, hx9]; omega
  · intro _; rw [show (upd (upd lq 0 x9) 1 x22) 1 = x22 from rfl, hx22]; omega

