set_option maxRecDepth 20000 in
theorem f_push (l : Launch) (G : Gl) (n : Nat) (ad : Nat → Nat) (E : Nat → va_E) (b : Nat) (hb : b + 6 ≤ n) {ip kd : Nat → Int32} (hEb : E b = ob 5 (rP ad b) ip) (hEb5 : E (b + 5) = aI G 8 kd) (hh1 : 0 ≤ (ip 5).toInt) (hh2 : (ip 5).toInt ≤ 8) (x : Int32)  : CtI l G yX5_push cX5_push 2 .boolean 0 0 n ad E [.ref (ad b), .int x] (fun r E' => ((ip 5).toInt = 8 ∧ r = 0 ∧ E = E') ∨ ((ip 5).toInt < 8 ∧ r = 1 ∧ ∃ z : Int32, z.toInt = (ip 5).toInt + 1 ∧ E' b = ob 5 (rP ad b) (va_up ip 5 z) ∧ E' (b + 5) = aI G 8 (upd kd (ip 5).toInt.toNat x) ∧ ∀ j, j ≠ b → j ≠ b + 5 → E' j = E j)) := by
  refine CtI.of (by decide) (Nat.le_of_ble_eq_true rfl) (fun X A C => ?_)
  refine v_sub (lv' := [(0, .ref (ad b)), (1, .int x)]) [0, 1] rfl ?_
  refine v_aload_n C 0 dX5_push_0 rfl rfl ?_
  refine v_geti (v := ip 5) C b dX5_push_1 fX5_38 (by omega) hEb rfl rfl ?_
  refine v_bipush (v := 8) C dX5_push_4 (by decide) ?_
  refine b_icmp_lt C 11 dX5_push_6 (by decide) (rfl : Int32.toInt (ip 5) = _) (show (8 : Int32).toInt = 8 by decide) (fun c1 => ?_) (fun c1 => ?_)
  · refine v_aload_n C 0 dX5_push_11 rfl rfl ?_
    refine v_getr C b dX5_push_12 fX5_24 (by omega) hEb rfl rfl ?_
    refine v_aload_n C 0 dX5_push_15 rfl rfl ?_
    refine v_geti (v := ip 5) C b dX5_push_16 fX5_38 (by omega) hEb rfl rfl ?_
    refine v_iload_n C 1 dX5_push_19 rfl rfl ?_
    refine v_ast C (b + 5) dX5_push_20 (by omega) hEb5 (ti_in (rfl : Int32.toInt (ip 5) = _) (by omega) (by omega)) (fun E2 hE2_b5 oE2 => ?_)
    rw [ti_cl (rfl : Int32.toInt (ip 5) = _)] at hE2_b5
    have hE2_b := (oE2 b (by omega)).trans hEb
    refine v_aload_n C 0 dX5_push_21 rfl rfl ?_
    refine v_dup C dX5_push_22 rfl ?_
    refine v_geti (v := ip 5) C b dX5_push_23 fX5_38 (by omega) hE2_b rfl rfl ?_
    refine v_iconst (v := 1) C dX5_push_26 (by decide) ?_
    refine v_iadd C dX5_push_27 ?_
    refine v_top (fun x3 ex3 => ?_)
    have hx3 : x3.toInt = ((ip 5).toInt + 1) := by rw [ex3]; exact ti_add (rfl : Int32.toInt (ip 5) = _) (show (1 : Int32).toInt = 1 by decide) (by omega) (by omega)
    refine v_puti C b dX5_push_28 fX5_38 (by omega) hE2_b rfl rfl rfl rfl (fun E4 hE4_b oE4 => ?_)
    have hE4_b5 := (oE4 (b + 5) (by omega)).trans hE2_b5
    refine v_iconst (v := 1) C dX5_push_31 (by decide) ?_
    exact v_ret C dX5_push_32 rfl rfl (Or.inr ⟨by omega, rfl, x3, hx3, hE4_b, hE4_b5, fun j h0 h5 => ((oE4 j h0).trans (oE2 j h5))⟩)
  · refine v_iconst (v := 0) C dX5_push_9 (by decide) ?_
    exact v_ret C dX5_push_10 rfl rfl (Or.inl ⟨by omega, rfl, rfl⟩)

set_option maxRecDepth 20000 in
theorem f_become (l : Launch) (G : Gl) (n : Nat) (ad : Nat → Nat) (E : Nat → va_E) (b : Nat) (hb : b + 6 ≤ n) {ip kd : Nat → Int32} (hEb : E b = ob 5 (rP ad b) ip) (hEb5 : E (b + 5) = aI G 8 kd) (hh1 : 0 ≤ (ip 5).toInt) (hh2 : (ip 5).toInt ≤ 8) (x : Int32) (y : Int32)  : CtI l G yX5_become cX5_become 3 .boolean 0 0 n ad E [.ref (ad b), .int x, .int y] (fun r E' => (¬ (1 ≤ (ip 5).toInt ∧ (kd ((ip 5).toInt - 1).toNat).toInt = x.toInt) ∧ r = 0 ∧ E = E') ∨ ((1 ≤ (ip 5).toInt ∧ (kd ((ip 5).toInt - 1).toNat).toInt = x.toInt) ∧ r = 1 ∧ E' (b + 5) = aI G 8 (upd kd ((ip 5).toInt - 1).toNat y) ∧ ∀ j, j ≠ b + 5 → E' j = E j)) := by
  refine CtI.of (by decide) (Nat.le_of_ble_eq_true rfl) (fun X A C => ?_)
  refine v_sub (lv' := [(0, .ref (ad b)), (1, .int x), (2, .int y)]) [0, 1, 2] rfl ?_
  refine v_aload_n C 0 dX5_become_0 rfl rfl ?_
  refine v_geti (v := ip 5) C b dX5_become_1 fX5_38 (by omega) hEb rfl rfl ?_
  refine v_iconst (v := 1) C dX5_become_4 (by decide) ?_
  refine b_icmp_lt C 23 dX5_become_5 (by decide) (rfl : Int32.toInt (ip 5) = _) (show (1 : Int32).toInt = 1 by decide) (fun c1 => ?_) (fun c1 => ?_)
  · refine v_iconst (v := 0) C dX5_become_23 (by decide) ?_
    exact v_ret C dX5_become_24 rfl rfl (Or.inl ⟨by omega, rfl, rfl⟩)
  · refine v_aload_n C 0 dX5_become_8 rfl rfl ?_
    refine v_getr C b dX5_become_9 fX5_24 (by omega) hEb rfl rfl ?_
    refine v_aload_n C 0 dX5_become_12 rfl rfl ?_
    refine v_geti (v := ip 5) C b dX5_become_13 fX5_38 (by omega) hEb rfl rfl ?_
    refine v_iconst (v := 1) C dX5_become_16 (by decide) ?_
    refine v_isub C dX5_become_17 ?_
    refine v_top (fun x2 ex2 => ?_)
    have hx2 : x2.toInt = ((ip 5).toInt - 1) := by rw [ex2]; exact ti_sub (rfl : Int32.toInt (ip 5) = _) (show (1 : Int32).toInt = 1 by decide) (by omega) (by omega)
    refine v_ald (v := kd (((ip 5).toInt - 1)).toNat) C (b + 5) dX5_become_18 (by omega) hEb5 (ti_in hx2 (by omega) (by omega)) (by rw [ti_cl hx2]) ?_
    refine v_iload_n C 1 dX5_become_19 rfl rfl ?_
    refine b_icmp_eq C 25 dX5_become_20 (by decide) (rfl : Int32.toInt (kd (((ip 5).toInt - 1)).toNat) = _) (rfl : Int32.toInt x = _) (fun c3 => ?_) (fun c3 => ?_)
    · refine v_aload_n C 0 dX5_become_25 rfl rfl ?_
      refine v_getr C b dX5_become_26 fX5_24 (by omega) hEb rfl rfl ?_
      refine v_aload_n C 0 dX5_become_29 rfl rfl ?_
      refine v_geti (v := ip 5) C b dX5_become_30 fX5_38 (by omega) hEb rfl rfl ?_
      refine v_iconst (v := 1) C dX5_become_33 (by decide) ?_
      refine v_isub C dX5_become_34 ?_
      refine v_top (fun x4 ex4 => ?_)
      have hx4 : x4.toInt = ((ip 5).toInt - 1) := by rw [ex4]; exact ti_sub (rfl : Int32.toInt (ip 5) = _) (show (1 : Int32).toInt = 1 by decide) (by omega) (by omega)
      refine v_iload_n C 2 dX5_become_35 rfl rfl ?_
      refine v_ast C (b + 5) dX5_become_36 (by omega) hEb5 (ti_in hx4 (by omega) (by omega)) (fun E5 hE5_b5 oE5 => ?_)
      rw [ti_cl hx4] at hE5_b5
      have hE5_b := (oE5 b (by omega)).trans hEb
      refine v_iconst (v := 1) C dX5_become_37 (by decide) ?_
      exact v_ret C dX5_become_38 rfl rfl (Or.inr ⟨by omega, rfl, hE5_b5, fun j h5 => (oE5 j h5)⟩)
    · refine v_iconst (v := 0) C dX5_become_23 (by decide) ?_
      exact v_ret C dX5_become_24 rfl rfl (Or.inl ⟨by omega, rfl, rfl⟩)

theorem upd_comm {f : Nat → Int32} {a b : Nat} {x y : Int32} (h : a ≠ b) : upd (upd f a x) b y = upd (upd f b y) a x := by
  funext j
  by_cases p : j = a
  · subst p; rw [upd_ne (fun q => h q), upd_same, upd_same]
  · by_cases q : j = b
    · subst q; rw [upd_same, upd_ne p, upd_same]
    · rw [upd_ne q, upd_ne p, upd_ne p, upd_ne q]
set_option maxRecDepth 20000 in
theorem f_pairFits (l : Launch) (G : Gl) (n : Nat) (ad : Nat → Nat) (E : Nat → va_E) (b : Nat) (hb : b + 6 ≤ n) {ip kd : Nat → Int32} (hEb : E b = ob 5 (rP ad b) ip) (hEb5 : E (b + 5) = aI G 8 kd) (hh1 : 0 ≤ (ip 5).toInt) (hh2 : (ip 5).toInt ≤ 8) (op : Int32) (x : Int32) (y : Int32) (hop : op.toInt = 8 ∨ op.toInt = 9 ∨ op.toInt = 11) (h2 : 2 ≤ (ip 5).toInt) (hx : x = kd ((ip 5).toInt - 2).toNat) (hy : y = kd ((ip 5).toInt - 1).toNat)  : CtI l G yX5_pairFits cX5_pairFits 6 .boolean 0 0 n ad E [.ref (ad b), .int op, .int x, .int y] (fun r E' => (FTs op.toInt (ip 5).toInt kd = none ∧ r = 0 ∧ E = E') ∨ (∃ (h1 : Int) (K1 ip1 : Nat → Int32), FTs op.toInt (ip 5).toInt kd = some (h1, K1) ∧ r = 1 ∧ E' b = ob 5 (rP ad b) ip1 ∧ (ip1 5).toInt = h1 ∧ (∀ q, q ≠ 5 → ip1 q = ip q) ∧ E' (b + 5) = aI G 8 K1 ∧ ∀ j, j ≠ b → j ≠ b + 5 → E' j = E j)) := by
  refine CtI.of (by decide) (Nat.le_of_ble_eq_true rfl) (fun X A C => ?_)
  refine v_sub (lv' := [(0, .ref (ad b)), (1, .int op), (2, .int x), (3, .int y)]) [0, 1, 2, 3] rfl ?_
  have hxi : x.toInt = (kd ((ip 5).toInt - 2).toNat).toInt := by rw [hx]
  have hyi : y.toInt = (kd ((ip 5).toInt - 1).toNat).toInt := by rw [hy]
  refine v_aload_n C 0 dX5_pairFits_0 rfl rfl ?_
  refine v_geti (v := ip 5) C b dX5_pairFits_1 fX5_38 (by omega) hEb rfl rfl ?_
  refine v_iconst (v := 2) C dX5_pairFits_4 (by decide) ?_
  refine b_icmp_ge C 10 dX5_pairFits_5 (by decide) (rfl : Int32.toInt (ip 5) = _) (show (2 : Int32).toInt = 2 by decide) (fun c1 => ?_) (fun c1 => ?_)
  · refine v_iload_n C 1 dX5_pairFits_10 rfl rfl ?_
    refine v_bipush (v := 11) C dX5_pairFits_11 (by decide) ?_
    refine b_icmp_ne C 42 dX5_pairFits_13 (by decide) (rfl : Int32.toInt op = _) (show (11 : Int32).toInt = 11 by decide) (fun c2 => ?_) (fun c2 => ?_)
    · refine v_iload_n C 1 dX5_pairFits_42 rfl rfl ?_
      refine v_bipush (v := 8) C dX5_pairFits_43 (by decide) ?_
      refine b_icmp_ne C 62 dX5_pairFits_45 (by decide) (rfl : Int32.toInt op = _) (show (8 : Int32).toInt = 8 by decide) (fun c3 => ?_) (fun c3 => ?_)
      · refine v_iconst (v := 0) C dX5_pairFits_62 (by decide) ?_
        refine v_istore (lv' := [(0, .ref (ad b)), (1, .int op), (2, .int x), (3, .int y), (4, .int 0)]) C [1, 2, 3, 4, 0] dX5_pairFits_63 (by decide) rfl ?_
        refine v_iload_n C 1 dX5_pairFits_65 rfl rfl ?_
        refine v_bipush (v := 9) C dX5_pairFits_66 (by decide) ?_
        refine b_icmp_ne C 89 dX5_pairFits_68 (by decide) (rfl : Int32.toInt op = _) (show (9 : Int32).toInt = 9 by decide) (fun c4 => ?_) (fun c4 => ?_)
        · refine v_iconst (v := 0) C dX5_pairFits_89 (by decide) ?_
          refine v_istore (lv' := [(0, .ref (ad b)), (1, .int op), (2, .int x), (3, .int y), (4, .int 0), (5, .int 0)]) C [1, 2, 3, 4, 5, 0] dX5_pairFits_90 (by decide) rfl ?_
          refine v_iload C 4 dX5_pairFits_92 rfl ?_
          refine b_if_eq C 109 dX5_pairFits_94 (by decide) (show (0 : Int32).toInt = 0 by decide) (fun c5 => ?_) (fun c5 => absurd c5 (by decide))
          refine v_iload C 4 dX5_pairFits_109 rfl ?_
          refine b_if_ne C 119 dX5_pairFits_111 (by decide) (show (0 : Int32).toInt = 0 by decide) (fun c6 => absurd c6 (by decide)) (fun c6 => ?_)
          refine v_iload C 5 dX5_pairFits_114 rfl ?_
          refine b_if_eq C 129 dX5_pairFits_116 (by decide) (show (0 : Int32).toInt = 0 by decide) (fun c7 => ?_) (fun c7 => absurd c7 (by decide))
          refine v_iload C 4 dX5_pairFits_129 rfl ?_
          refine b_if_ne C 139 dX5_pairFits_131 (by decide) (show (0 : Int32).toInt = 0 by decide) (fun c8 => absurd c8 (by decide)) (fun c8 => ?_)
          refine v_iload C 5 dX5_pairFits_134 rfl ?_
          refine b_if_eq C 143 dX5_pairFits_136 (by decide) (show (0 : Int32).toInt = 0 by decide) (fun c9 => ?_) (fun c9 => absurd c9 (by decide))
          refine v_iconst (v := 0) C dX5_pairFits_143 (by decide) ?_
          exact v_ret C dX5_pairFits_144 rfl rfl (Or.inl ⟨(by first | (exfalso; omega) | (unfold FTs; (repeat first | rw [if_pos (by omega)] | rw [if_neg (by omega)]))), rfl, rfl⟩)
        · refine v_iload_n C 3 dX5_pairFits_71 rfl rfl ?_
          refine v_iconst (v := 3) C dX5_pairFits_72 (by decide) ?_
          refine b_icmp_ne C 89 dX5_pairFits_73 (by decide) (rfl : Int32.toInt y = _) (show (3 : Int32).toInt = 3 by decide) (fun c10 => ?_) (fun c10 => ?_)
          · refine v_iconst (v := 0) C dX5_pairFits_89 (by decide) ?_
            refine v_istore (lv' := [(0, .ref (ad b)), (1, .int op), (2, .int x), (3, .int y), (4, .int 0), (5, .int 0)]) C [1, 2, 3, 4, 5, 0] dX5_pairFits_90 (by decide) rfl ?_
            refine v_iload C 4 dX5_pairFits_92 rfl ?_
            refine b_if_eq C 109 dX5_pairFits_94 (by decide) (show (0 : Int32).toInt = 0 by decide) (fun c11 => ?_) (fun c11 => absurd c11 (by decide))
            refine v_iload C 4 dX5_pairFits_109 rfl ?_
            refine b_if_ne C 119 dX5_pairFits_111 (by decide) (show (0 : Int32).toInt = 0 by decide) (fun c12 => absurd c12 (by decide)) (fun c12 => ?_)
            refine v_iload C 5 dX5_pairFits_114 rfl ?_
            refine b_if_eq C 129 dX5_pairFits_116 (by decide) (show (0 : Int32).toInt = 0 by decide) (fun c13 => ?_) (fun c13 => absurd c13 (by decide))
            refine v_iload C 4 dX5_pairFits_129 rfl ?_
            refine b_if_ne C 139 dX5_pairFits_131 (by decide) (show (0 : Int32).toInt = 0 by decide) (fun c14 => absurd c14 (by decide)) (fun c14 => ?_)
            refine v_iload C 5 dX5_pairFits_134 rfl ?_
            refine b_if_eq C 143 dX5_pairFits_136 (by decide) (show (0 : Int32).toInt = 0 by decide) (fun c15 => ?_) (fun c15 => absurd c15 (by decide))
            refine v_iconst (v := 0) C dX5_pairFits_143 (by decide) ?_
            exact v_ret C dX5_pairFits_144 rfl rfl (Or.inl ⟨(by first | (exfalso; omega) | (unfold FTs; (repeat first | rw [if_pos (by omega)] | rw [if_neg (by omega)]))), rfl, rfl⟩)
          · refine v_iload_n C 2 dX5_pairFits_76 rfl rfl ?_
            refine b_if_eq C 85 dX5_pairFits_77 (by decide) (rfl : Int32.toInt x = _) (fun c16 => ?_) (fun c16 => ?_)
            · refine v_iconst (v := 1) C dX5_pairFits_85 (by decide) ?_
              refine v_goto C 90 dX5_pairFits_86 (by decide) ?_
              refine v_istore (lv' := [(0, .ref (ad b)), (1, .int op), (2, .int x), (3, .int y), (4, .int 0), (5, .int 1)]) C [1, 2, 3, 4, 5, 0] dX5_pairFits_90 (by decide) rfl ?_
              refine v_iload C 4 dX5_pairFits_92 rfl ?_
              refine b_if_eq C 109 dX5_pairFits_94 (by decide) (show (0 : Int32).toInt = 0 by decide) (fun c17 => ?_) (fun c17 => absurd c17 (by decide))
              refine v_iload C 4 dX5_pairFits_109 rfl ?_
              refine b_if_ne C 119 dX5_pairFits_111 (by decide) (show (0 : Int32).toInt = 0 by decide) (fun c18 => absurd c18 (by decide)) (fun c18 => ?_)
              refine v_iload C 5 dX5_pairFits_114 rfl ?_
              refine b_if_eq C 129 dX5_pairFits_116 (by decide) (show (1 : Int32).toInt = 1 by decide) (fun c19 => absurd c19 (by decide)) (fun c19 => ?_)
              refine v_aload_n C 0 dX5_pairFits_119 rfl rfl ?_
              refine v_dup C dX5_pairFits_120 rfl ?_
              refine v_geti (v := ip 5) C b dX5_pairFits_121 fX5_38 (by omega) hEb rfl rfl ?_
              refine v_iconst (v := 1) C dX5_pairFits_124 (by decide) ?_
              refine v_isub C dX5_pairFits_125 ?_
              refine v_top (fun x20 ex20 => ?_)
              have hx20 : x20.toInt = ((ip 5).toInt - 1) := by rw [ex20]; exact ti_sub (rfl : Int32.toInt (ip 5) = _) (show (1 : Int32).toInt = 1 by decide) (by omega) (by omega)
              refine v_puti C b dX5_pairFits_126 fX5_38 (by omega) hEb rfl rfl rfl rfl (fun E21 hE21_b oE21 => ?_)
              have hE21_b5 := (oE21 (b + 5) (by omega)).trans hEb5
              refine v_iload C 4 dX5_pairFits_129 rfl ?_
              refine b_if_ne C 139 dX5_pairFits_131 (by decide) (show (0 : Int32).toInt = 0 by decide) (fun c22 => absurd c22 (by decide)) (fun c22 => ?_)
              refine v_iload C 5 dX5_pairFits_134 rfl ?_
              refine b_if_eq C 143 dX5_pairFits_136 (by decide) (show (1 : Int32).toInt = 1 by decide) (fun c23 => absurd c23 (by decide)) (fun c23 => ?_)
              refine v_iconst (v := 1) C dX5_pairFits_139 (by decide) ?_
              refine v_goto C 144 dX5_pairFits_140 (by decide) ?_
              exact v_ret C dX5_pairFits_144 rfl rfl (Or.inr ⟨_, _, _, (by first | (exfalso; omega) | (unfold FTs; (repeat first | rw [if_pos (by omega)] | rw [if_neg (by omega)]))), rfl, hE21_b, (show (va_up ip 5 x20 5).toInt = _ from hx20), (fun q hq => if_neg hq), hE21_b5, fun j h0 h5 => (oE21 j h0)⟩)
            · refine v_iload_n C 2 dX5_pairFits_80 rfl rfl ?_
              refine v_iconst (v := 1) C dX5_pairFits_81 (by decide) ?_
              refine b_icmp_ne C 89 dX5_pairFits_82 (by decide) (rfl : Int32.toInt x = _) (show (1 : Int32).toInt = 1 by decide) (fun c24 => ?_) (fun c24 => ?_)
              · refine v_iconst (v := 0) C dX5_pairFits_89 (by decide) ?_
                refine v_istore (lv' := [(0, .ref (ad b)), (1, .int op), (2, .int x), (3, .int y), (4, .int 0), (5, .int 0)]) C [1, 2, 3, 4, 5, 0] dX5_pairFits_90 (by decide) rfl ?_
                refine v_iload C 4 dX5_pairFits_92 rfl ?_
                refine b_if_eq C 109 dX5_pairFits_94 (by decide) (show (0 : Int32).toInt = 0 by decide) (fun c25 => ?_) (fun c25 => absurd c25 (by decide))
                refine v_iload C 4 dX5_pairFits_109 rfl ?_
                refine b_if_ne C 119 dX5_pairFits_111 (by decide) (show (0 : Int32).toInt = 0 by decide) (fun c26 => absurd c26 (by decide)) (fun c26 => ?_)
                refine v_iload C 5 dX5_pairFits_114 rfl ?_
                refine b_if_eq C 129 dX5_pairFits_116 (by decide) (show (0 : Int32).toInt = 0 by decide) (fun c27 => ?_) (fun c27 => absurd c27 (by decide))
                refine v_iload C 4 dX5_pairFits_129 rfl ?_
                refine b_if_ne C 139 dX5_pairFits_131 (by decide) (show (0 : Int32).toInt = 0 by decide) (fun c28 => absurd c28 (by decide)) (fun c28 => ?_)
                refine v_iload C 5 dX5_pairFits_134 rfl ?_
                refine b_if_eq C 143 dX5_pairFits_136 (by decide) (show (0 : Int32).toInt = 0 by decide) (fun c29 => ?_) (fun c29 => absurd c29 (by decide))
                refine v_iconst (v := 0) C dX5_pairFits_143 (by decide) ?_
                exact v_ret C dX5_pairFits_144 rfl rfl (Or.inl ⟨(by first | (exfalso; omega) | (unfold FTs; (repeat first | rw [if_pos (by omega)] | rw [if_neg (by omega)]))), rfl, rfl⟩)
              · refine v_iconst (v := 1) C dX5_pairFits_85 (by decide) ?_
                refine v_goto C 90 dX5_pairFits_86 (by decide) ?_
                refine v_istore (lv' := [(0, .ref (ad b)), (1, .int op), (2, .int x), (3, .int y), (4, .int 0), (5, .int 1)]) C [1, 2, 3, 4, 5, 0] dX5_pairFits_90 (by decide) rfl ?_
                refine v_iload C 4 dX5_pairFits_92 rfl ?_
                refine b_if_eq C 109 dX5_pairFits_94 (by decide) (show (0 : Int32).toInt = 0 by decide) (fun c30 => ?_) (fun c30 => absurd c30 (by decide))
                refine v_iload C 4 dX5_pairFits_109 rfl ?_
                refine b_if_ne C 119 dX5_pairFits_111 (by decide) (show (0 : Int32).toInt = 0 by decide) (fun c31 => absurd c31 (by decide)) (fun c31 => ?_)
                refine v_iload C 5 dX5_pairFits_114 rfl ?_
                refine b_if_eq C 129 dX5_pairFits_116 (by decide) (show (1 : Int32).toInt = 1 by decide) (fun c32 => absurd c32 (by decide)) (fun c32 => ?_)
                refine v_aload_n C 0 dX5_pairFits_119 rfl rfl ?_
                refine v_dup C dX5_pairFits_120 rfl ?_
                refine v_geti (v := ip 5) C b dX5_pairFits_121 fX5_38 (by omega) hEb rfl rfl ?_
                refine v_iconst (v := 1) C dX5_pairFits_124 (by decide) ?_
                refine v_isub C dX5_pairFits_125 ?_
                refine v_top (fun x33 ex33 => ?_)
                have hx33 : x33.toInt = ((ip 5).toInt - 1) := by rw [ex33]; exact ti_sub (rfl : Int32.toInt (ip 5) = _) (show (1 : Int32).toInt = 1 by decide) (by omega) (by omega)
                refine v_puti C b dX5_pairFits_126 fX5_38 (by omega) hEb rfl rfl rfl rfl (fun E34 hE34_b oE34 => ?_)
                have hE34_b5 := (oE34 (b + 5) (by omega)).trans hEb5
                refine v_iload C 4 dX5_pairFits_129 rfl ?_
                refine b_if_ne C 139 dX5_pairFits_131 (by decide) (show (0 : Int32).toInt = 0 by decide) (fun c35 => absurd c35 (by decide)) (fun c35 => ?_)
                refine v_iload C 5 dX5_pairFits_134 rfl ?_
                refine b_if_eq C 143 dX5_pairFits_136 (by decide) (show (1 : Int32).toInt = 1 by decide) (fun c36 => absurd c36 (by decide)) (fun c36 => ?_)
                refine v_iconst (v := 1) C dX5_pairFits_139 (by decide) ?_
                refine v_goto C 144 dX5_pairFits_140 (by decide) ?_
                exact v_ret C dX5_pairFits_144 rfl rfl (Or.inr ⟨_, _, _, (by first | (exfalso; omega) | (unfold FTs; (repeat first | rw [if_pos (by omega)] | rw [if_neg (by omega)]))), rfl, hE34_b, (show (va_up ip 5 x33 5).toInt = _ from hx33), (fun q hq => if_neg hq), hE34_b5, fun j h0 h5 => (oE34 j h0)⟩)
      · refine v_iload_n C 2 dX5_pairFits_48 rfl rfl ?_
        refine v_iload_n C 3 dX5_pairFits_49 rfl rfl ?_
        refine b_icmp_ne C 62 dX5_pairFits_50 (by decide) (rfl : Int32.toInt x = _) (rfl : Int32.toInt y = _) (fun c37 => ?_) (fun c37 => ?_)
        · refine v_iconst (v := 0) C dX5_pairFits_62 (by decide) ?_
          refine v_istore (lv' := [(0, .ref (ad b)), (1, .int op), (2, .int x), (3, .int y), (4, .int 0)]) C [1, 2, 3, 4, 0] dX5_pairFits_63 (by decide) rfl ?_
          refine v_iload_n C 1 dX5_pairFits_65 rfl rfl ?_
          refine v_bipush (v := 9) C dX5_pairFits_66 (by decide) ?_
          refine b_icmp_ne C 89 dX5_pairFits_68 (by decide) (rfl : Int32.toInt op = _) (show (9 : Int32).toInt = 9 by decide) (fun c38 => ?_) (fun c38 => ?_)
          · refine v_iconst (v := 0) C dX5_pairFits_89 (by decide) ?_
            refine v_istore (lv' := [(0, .ref (ad b)), (1, .int op), (2, .int x), (3, .int y), (4, .int 0), (5, .int 0)]) C [1, 2, 3, 4, 5, 0] dX5_pairFits_90 (by decide) rfl ?_
            refine v_iload C 4 dX5_pairFits_92 rfl ?_
            refine b_if_eq C 109 dX5_pairFits_94 (by decide) (show (0 : Int32).toInt = 0 by decide) (fun c39 => ?_) (fun c39 => absurd c39 (by decide))
            refine v_iload C 4 dX5_pairFits_109 rfl ?_
            refine b_if_ne C 119 dX5_pairFits_111 (by decide) (show (0 : Int32).toInt = 0 by decide) (fun c40 => absurd c40 (by decide)) (fun c40 => ?_)
            refine v_iload C 5 dX5_pairFits_114 rfl ?_
            refine b_if_eq C 129 dX5_pairFits_116 (by decide) (show (0 : Int32).toInt = 0 by decide) (fun c41 => ?_) (fun c41 => absurd c41 (by decide))
            refine v_iload C 4 dX5_pairFits_129 rfl ?_
            refine b_if_ne C 139 dX5_pairFits_131 (by decide) (show (0 : Int32).toInt = 0 by decide) (fun c42 => absurd c42 (by decide)) (fun c42 => ?_)
            refine v_iload C 5 dX5_pairFits_134 rfl ?_
            refine b_if_eq C 143 dX5_pairFits_136 (by decide) (show (0 : Int32).toInt = 0 by decide) (fun c43 => ?_) (fun c43 => absurd c43 (by decide))
            refine v_iconst (v := 0) C dX5_pairFits_143 (by decide) ?_
            exact v_ret C dX5_pairFits_144 rfl rfl (Or.inl ⟨(by first | (exfalso; omega) | (unfold FTs; (repeat first | rw [if_pos (by omega)] | rw [if_neg (by omega)]))), rfl, rfl⟩)
          · refine v_iload_n C 3 dX5_pairFits_71 rfl rfl ?_
            refine v_iconst (v := 3) C dX5_pairFits_72 (by decide) ?_
            refine b_icmp_ne C 89 dX5_pairFits_73 (by decide) (rfl : Int32.toInt y = _) (show (3 : Int32).toInt = 3 by decide) (fun c44 => ?_) (fun c44 => ?_)
            · refine v_iconst (v := 0) C dX5_pairFits_89 (by decide) ?_
              refine v_istore (lv' := [(0, .ref (ad b)), (1, .int op), (2, .int x), (3, .int y), (4, .int 0), (5, .int 0)]) C [1, 2, 3, 4, 5, 0] dX5_pairFits_90 (by decide) rfl ?_
              refine v_iload C 4 dX5_pairFits_92 rfl ?_
              refine b_if_eq C 109 dX5_pairFits_94 (by decide) (show (0 : Int32).toInt = 0 by decide) (fun c45 => ?_) (fun c45 => absurd c45 (by decide))
              refine v_iload C 4 dX5_pairFits_109 rfl ?_
              refine b_if_ne C 119 dX5_pairFits_111 (by decide) (show (0 : Int32).toInt = 0 by decide) (fun c46 => absurd c46 (by decide)) (fun c46 => ?_)
              refine v_iload C 5 dX5_pairFits_114 rfl ?_
              refine b_if_eq C 129 dX5_pairFits_116 (by decide) (show (0 : Int32).toInt = 0 by decide) (fun c47 => ?_) (fun c47 => absurd c47 (by decide))
              refine v_iload C 4 dX5_pairFits_129 rfl ?_
              refine b_if_ne C 139 dX5_pairFits_131 (by decide) (show (0 : Int32).toInt = 0 by decide) (fun c48 => absurd c48 (by decide)) (fun c48 => ?_)
              refine v_iload C 5 dX5_pairFits_134 rfl ?_
              refine b_if_eq C 143 dX5_pairFits_136 (by decide) (show (0 : Int32).toInt = 0 by decide) (fun c49 => ?_) (fun c49 => absurd c49 (by decide))
              refine v_iconst (v := 0) C dX5_pairFits_143 (by decide) ?_
              exact v_ret C dX5_pairFits_144 rfl rfl (Or.inl ⟨(by first | (exfalso; omega) | (unfold FTs; (repeat first | rw [if_pos (by omega)] | rw [if_neg (by omega)]))), rfl, rfl⟩)
            · refine v_iload_n C 2 dX5_pairFits_76 rfl rfl ?_
              refine b_if_eq C 85 dX5_pairFits_77 (by decide) (rfl : Int32.toInt x = _) (fun c50 => ?_) (fun c50 => ?_)
              · refine v_iconst (v := 1) C dX5_pairFits_85 (by decide) ?_
                refine v_goto C 90 dX5_pairFits_86 (by decide) ?_
                refine v_istore (lv' := [(0, .ref (ad b)), (1, .int op), (2, .int x), (3, .int y), (4, .int 0), (5, .int 1)]) C [1, 2, 3, 4, 5, 0] dX5_pairFits_90 (by decide) rfl ?_
                refine v_iload C 4 dX5_pairFits_92 rfl ?_
                refine b_if_eq C 109 dX5_pairFits_94 (by decide) (show (0 : Int32).toInt = 0 by decide) (fun c51 => ?_) (fun c51 => absurd c51 (by decide))
                refine v_iload C 4 dX5_pairFits_109 rfl ?_
                refine b_if_ne C 119 dX5_pairFits_111 (by decide) (show (0 : Int32).toInt = 0 by decide) (fun c52 => absurd c52 (by decide)) (fun c52 => ?_)
                refine v_iload C 5 dX5_pairFits_114 rfl ?_
                refine b_if_eq C 129 dX5_pairFits_116 (by decide) (show (1 : Int32).toInt = 1 by decide) (fun c53 => absurd c53 (by decide)) (fun c53 => ?_)
                refine v_aload_n C 0 dX5_pairFits_119 rfl rfl ?_
                refine v_dup C dX5_pairFits_120 rfl ?_
                refine v_geti (v := ip 5) C b dX5_pairFits_121 fX5_38 (by omega) hEb rfl rfl ?_
                refine v_iconst (v := 1) C dX5_pairFits_124 (by decide) ?_
                refine v_isub C dX5_pairFits_125 ?_
                refine v_top (fun x54 ex54 => ?_)
                have hx54 : x54.toInt = ((ip 5).toInt - 1) := by rw [ex54]; exact ti_sub (rfl : Int32.toInt (ip 5) = _) (show (1 : Int32).toInt = 1 by decide) (by omega) (by omega)
                refine v_puti C b dX5_pairFits_126 fX5_38 (by omega) hEb rfl rfl rfl rfl (fun E55 hE55_b oE55 => ?_)
                have hE55_b5 := (oE55 (b + 5) (by omega)).trans hEb5
                refine v_iload C 4 dX5_pairFits_129 rfl ?_
                refine b_if_ne C 139 dX5_pairFits_131 (by decide) (show (0 : Int32).toInt = 0 by decide) (fun c56 => absurd c56 (by decide)) (fun c56 => ?_)
                refine v_iload C 5 dX5_pairFits_134 rfl ?_
                refine b_if_eq C 143 dX5_pairFits_136 (by decide) (show (1 : Int32).toInt = 1 by decide) (fun c57 => absurd c57 (by decide)) (fun c57 => ?_)
                refine v_iconst (v := 1) C dX5_pairFits_139 (by decide) ?_
                refine v_goto C 144 dX5_pairFits_140 (by decide) ?_
                exact v_ret C dX5_pairFits_144 rfl rfl (Or.inr ⟨_, _, _, (by first | (exfalso; omega) | (unfold FTs; (repeat first | rw [if_pos (by omega)] | rw [if_neg (by omega)]))), rfl, hE55_b, (show (va_up ip 5 x54 5).toInt = _ from hx54), (fun q hq => if_neg hq), hE55_b5, fun j h0 h5 => (oE55 j h0)⟩)
              · refine v_iload_n C 2 dX5_pairFits_80 rfl rfl ?_
                refine v_iconst (v := 1) C dX5_pairFits_81 (by decide) ?_
                refine b_icmp_ne C 89 dX5_pairFits_82 (by decide) (rfl : Int32.toInt x = _) (show (1 : Int32).toInt = 1 by decide) (fun c58 => ?_) (fun c58 => ?_)
                · refine v_iconst (v := 0) C dX5_pairFits_89 (by decide) ?_
                  refine v_istore (lv' := [(0, .ref (ad b)), (1, .int op), (2, .int x), (3, .int y), (4, .int 0), (5, .int 0)]) C [1, 2, 3, 4, 5, 0] dX5_pairFits_90 (by decide) rfl ?_
                  refine v_iload C 4 dX5_pairFits_92 rfl ?_
                  refine b_if_eq C 109 dX5_pairFits_94 (by decide) (show (0 : Int32).toInt = 0 by decide) (fun c59 => ?_) (fun c59 => absurd c59 (by decide))
                  refine v_iload C 4 dX5_pairFits_109 rfl ?_
                  refine b_if_ne C 119 dX5_pairFits_111 (by decide) (show (0 : Int32).toInt = 0 by decide) (fun c60 => absurd c60 (by decide)) (fun c60 => ?_)
                  refine v_iload C 5 dX5_pairFits_114 rfl ?_
                  refine b_if_eq C 129 dX5_pairFits_116 (by decide) (show (0 : Int32).toInt = 0 by decide) (fun c61 => ?_) (fun c61 => absurd c61 (by decide))
                  refine v_iload C 4 dX5_pairFits_129 rfl ?_
                  refine b_if_ne C 139 dX5_pairFits_131 (by decide) (show (0 : Int32).toInt = 0 by decide) (fun c62 => absurd c62 (by decide)) (fun c62 => ?_)
                  refine v_iload C 5 dX5_pairFits_134 rfl ?_
                  refine b_if_eq C 143 dX5_pairFits_136 (by decide) (show (0 : Int32).toInt = 0 by decide) (fun c63 => ?_) (fun c63 => absurd c63 (by decide))
                  refine v_iconst (v := 0) C dX5_pairFits_143 (by decide) ?_
                  exact v_ret C dX5_pairFits_144 rfl rfl (Or.inl ⟨(by first | (exfalso; omega) | (unfold FTs; (repeat first | rw [if_pos (by omega)] | rw [if_neg (by omega)]))), rfl, rfl⟩)
                · refine v_iconst (v := 1) C dX5_pairFits_85 (by decide) ?_
                  refine v_goto C 90 dX5_pairFits_86 (by decide) ?_
                  refine v_istore (lv' := [(0, .ref (ad b)), (1, .int op), (2, .int x), (3, .int y), (4, .int 0), (5, .int 1)]) C [1, 2, 3, 4, 5, 0] dX5_pairFits_90 (by decide) rfl ?_
                  refine v_iload C 4 dX5_pairFits_92 rfl ?_
                  refine b_if_eq C 109 dX5_pairFits_94 (by decide) (show (0 : Int32).toInt = 0 by decide) (fun c64 => ?_) (fun c64 => absurd c64 (by decide))
                  refine v_iload C 4 dX5_pairFits_109 rfl ?_
                  refine b_if_ne C 119 dX5_pairFits_111 (by decide) (show (0 : Int32).toInt = 0 by decide) (fun c65 => absurd c65 (by decide)) (fun c65 => ?_)
                  refine v_iload C 5 dX5_pairFits_114 rfl ?_
                  refine b_if_eq C 129 dX5_pairFits_116 (by decide) (show (1 : Int32).toInt = 1 by decide) (fun c66 => absurd c66 (by decide)) (fun c66 => ?_)
                  refine v_aload_n C 0 dX5_pairFits_119 rfl rfl ?_
                  refine v_dup C dX5_pairFits_120 rfl ?_
                  refine v_geti (v := ip 5) C b dX5_pairFits_121 fX5_38 (by omega) hEb rfl rfl ?_
                  refine v_iconst (v := 1) C dX5_pairFits_124 (by decide) ?_
                  refine v_isub C dX5_pairFits_125 ?_
                  refine v_top (fun x67 ex67 => ?_)
                  have hx67 : x67.toInt = ((ip 5).toInt - 1) := by rw [ex67]; exact ti_sub (rfl : Int32.toInt (ip 5) = _) (show (1 : Int32).toInt = 1 by decide) (by omega) (by omega)
                  refine v_puti C b dX5_pairFits_126 fX5_38 (by omega) hEb rfl rfl rfl rfl (fun E68 hE68_b oE68 => ?_)
                  have hE68_b5 := (oE68 (b + 5) (by omega)).trans hEb5
                  refine v_iload C 4 dX5_pairFits_129 rfl ?_
                  refine b_if_ne C 139 dX5_pairFits_131 (by decide) (show (0 : Int32).toInt = 0 by decide) (fun c69 => absurd c69 (by decide)) (fun c69 => ?_)
                  refine v_iload C 5 dX5_pairFits_134 rfl ?_
                  refine b_if_eq C 143 dX5_pairFits_136 (by decide) (show (1 : Int32).toInt = 1 by decide) (fun c70 => absurd c70 (by decide)) (fun c70 => ?_)
                  refine v_iconst (v := 1) C dX5_pairFits_139 (by decide) ?_
                  refine v_goto C 144 dX5_pairFits_140 (by decide) ?_
                  exact v_ret C dX5_pairFits_144 rfl rfl (Or.inr ⟨_, _, _, (by first | (exfalso; omega) | (unfold FTs; (repeat first | rw [if_pos (by omega)] | rw [if_neg (by omega)]))), rfl, hE68_b, (show (va_up ip 5 x67 5).toInt = _ from hx67), (fun q hq => if_neg hq), hE68_b5, fun j h0 h5 => (oE68 j h0)⟩)
        · refine v_iload_n C 3 dX5_pairFits_53 rfl rfl ?_
          refine v_iconst (v := 3) C dX5_pairFits_54 (by decide) ?_
          refine b_icmp_eq C 62 dX5_pairFits_55 (by decide) (rfl : Int32.toInt y = _) (show (3 : Int32).toInt = 3 by decide) (fun c71 => ?_) (fun c71 => ?_)
          · refine v_iconst (v := 0) C dX5_pairFits_62 (by decide) ?_
            refine v_istore (lv' := [(0, .ref (ad b)), (1, .int op), (2, .int x), (3, .int y), (4, .int 0)]) C [1, 2, 3, 4, 0] dX5_pairFits_63 (by decide) rfl ?_
            refine v_iload_n C 1 dX5_pairFits_65 rfl rfl ?_
            refine v_bipush (v := 9) C dX5_pairFits_66 (by decide) ?_
            refine b_icmp_ne C 89 dX5_pairFits_68 (by decide) (rfl : Int32.toInt op = _) (show (9 : Int32).toInt = 9 by decide) (fun c72 => ?_) (fun c72 => ?_)
            · refine v_iconst (v := 0) C dX5_pairFits_89 (by decide) ?_
              refine v_istore (lv' := [(0, .ref (ad b)), (1, .int op), (2, .int x), (3, .int y), (4, .int 0), (5, .int 0)]) C [1, 2, 3, 4, 5, 0] dX5_pairFits_90 (by decide) rfl ?_
              refine v_iload C 4 dX5_pairFits_92 rfl ?_
              refine b_if_eq C 109 dX5_pairFits_94 (by decide) (show (0 : Int32).toInt = 0 by decide) (fun c73 => ?_) (fun c73 => absurd c73 (by decide))
              refine v_iload C 4 dX5_pairFits_109 rfl ?_
              refine b_if_ne C 119 dX5_pairFits_111 (by decide) (show (0 : Int32).toInt = 0 by decide) (fun c74 => absurd c74 (by decide)) (fun c74 => ?_)
              refine v_iload C 5 dX5_pairFits_114 rfl ?_
              refine b_if_eq C 129 dX5_pairFits_116 (by decide) (show (0 : Int32).toInt = 0 by decide) (fun c75 => ?_) (fun c75 => absurd c75 (by decide))
              refine v_iload C 4 dX5_pairFits_129 rfl ?_
              refine b_if_ne C 139 dX5_pairFits_131 (by decide) (show (0 : Int32).toInt = 0 by decide) (fun c76 => absurd c76 (by decide)) (fun c76 => ?_)
              refine v_iload C 5 dX5_pairFits_134 rfl ?_
              refine b_if_eq C 143 dX5_pairFits_136 (by decide) (show (0 : Int32).toInt = 0 by decide) (fun c77 => ?_) (fun c77 => absurd c77 (by decide))
              refine v_iconst (v := 0) C dX5_pairFits_143 (by decide) ?_
              exact v_ret C dX5_pairFits_144 rfl rfl (Or.inl ⟨(by first | (exfalso; omega) | (unfold FTs; (repeat first | rw [if_pos (by omega)] | rw [if_neg (by omega)]))), rfl, rfl⟩)
            · refine v_iload_n C 3 dX5_pairFits_71 rfl rfl ?_
              refine v_iconst (v := 3) C dX5_pairFits_72 (by decide) ?_
              refine b_icmp_ne C 89 dX5_pairFits_73 (by decide) (rfl : Int32.toInt y = _) (show (3 : Int32).toInt = 3 by decide) (fun c78 => ?_) (fun c78 => ?_)
              · refine v_iconst (v := 0) C dX5_pairFits_89 (by decide) ?_
                refine v_istore (lv' := [(0, .ref (ad b)), (1, .int op), (2, .int x), (3, .int y), (4, .int 0), (5, .int 0)]) C [1, 2, 3, 4, 5, 0] dX5_pairFits_90 (by decide) rfl ?_
                refine v_iload C 4 dX5_pairFits_92 rfl ?_
                refine b_if_eq C 109 dX5_pairFits_94 (by decide) (show (0 : Int32).toInt = 0 by decide) (fun c79 => ?_) (fun c79 => absurd c79 (by decide))
                refine v_iload C 4 dX5_pairFits_109 rfl ?_
                refine b_if_ne C 119 dX5_pairFits_111 (by decide) (show (0 : Int32).toInt = 0 by decide) (fun c80 => absurd c80 (by decide)) (fun c80 => ?_)
                refine v_iload C 5 dX5_pairFits_114 rfl ?_
                refine b_if_eq C 129 dX5_pairFits_116 (by decide) (show (0 : Int32).toInt = 0 by decide) (fun c81 => ?_) (fun c81 => absurd c81 (by decide))
                refine v_iload C 4 dX5_pairFits_129 rfl ?_
                refine b_if_ne C 139 dX5_pairFits_131 (by decide) (show (0 : Int32).toInt = 0 by decide) (fun c82 => absurd c82 (by decide)) (fun c82 => ?_)
                refine v_iload C 5 dX5_pairFits_134 rfl ?_
                refine b_if_eq C 143 dX5_pairFits_136 (by decide) (show (0 : Int32).toInt = 0 by decide) (fun c83 => ?_) (fun c83 => absurd c83 (by decide))
                refine v_iconst (v := 0) C dX5_pairFits_143 (by decide) ?_
                exact v_ret C dX5_pairFits_144 rfl rfl (Or.inl ⟨(by first | (exfalso; omega) | (unfold FTs; (repeat first | rw [if_pos (by omega)] | rw [if_neg (by omega)]))), rfl, rfl⟩)
              · refine v_iload_n C 2 dX5_pairFits_76 rfl rfl ?_
                refine b_if_eq C 85 dX5_pairFits_77 (by decide) (rfl : Int32.toInt x = _) (fun c84 => ?_) (fun c84 => ?_)
                · refine v_iconst (v := 1) C dX5_pairFits_85 (by decide) ?_
                  refine v_goto C 90 dX5_pairFits_86 (by decide) ?_
                  refine v_istore (lv' := [(0, .ref (ad b)), (1, .int op), (2, .int x), (3, .int y), (4, .int 0), (5, .int 1)]) C [1, 2, 3, 4, 5, 0] dX5_pairFits_90 (by decide) rfl ?_
                  refine v_iload C 4 dX5_pairFits_92 rfl ?_
                  refine b_if_eq C 109 dX5_pairFits_94 (by decide) (show (0 : Int32).toInt = 0 by decide) (fun c85 => ?_) (fun c85 => absurd c85 (by decide))
                  refine v_iload C 4 dX5_pairFits_109 rfl ?_
                  refine b_if_ne C 119 dX5_pairFits_111 (by decide) (show (0 : Int32).toInt = 0 by decide) (fun c86 => absurd c86 (by decide)) (fun c86 => ?_)
                  refine v_iload C 5 dX5_pairFits_114 rfl ?_
                  refine b_if_eq C 129 dX5_pairFits_116 (by decide) (show (1 : Int32).toInt = 1 by decide) (fun c87 => absurd c87 (by decide)) (fun c87 => ?_)
                  refine v_aload_n C 0 dX5_pairFits_119 rfl rfl ?_
                  refine v_dup C dX5_pairFits_120 rfl ?_
                  refine v_geti (v := ip 5) C b dX5_pairFits_121 fX5_38 (by omega) hEb rfl rfl ?_
                  refine v_iconst (v := 1) C dX5_pairFits_124 (by decide) ?_
                  refine v_isub C dX5_pairFits_125 ?_
                  refine v_top (fun x88 ex88 => ?_)
                  have hx88 : x88.toInt = ((ip 5).toInt - 1) := by rw [ex88]; exact ti_sub (rfl : Int32.toInt (ip 5) = _) (show (1 : Int32).toInt = 1 by decide) (by omega) (by omega)
                  refine v_puti C b dX5_pairFits_126 fX5_38 (by omega) hEb rfl rfl rfl rfl (fun E89 hE89_b oE89 => ?_)
                  have hE89_b5 := (oE89 (b + 5) (by omega)).trans hEb5
                  refine v_iload C 4 dX5_pairFits_129 rfl ?_
                  refine b_if_ne C 139 dX5_pairFits_131 (by decide) (show (0 : Int32).toInt = 0 by decide) (fun c90 => absurd c90 (by decide)) (fun c90 => ?_)
                  refine v_iload C 5 dX5_pairFits_134 rfl ?_
                  refine b_if_eq C 143 dX5_pairFits_136 (by decide) (show (1 : Int32).toInt = 1 by decide) (fun c91 => absurd c91 (by decide)) (fun c91 => ?_)
                  refine v_iconst (v := 1) C dX5_pairFits_139 (by decide) ?_
                  refine v_goto C 144 dX5_pairFits_140 (by decide) ?_
                  exact v_ret C dX5_pairFits_144 rfl rfl (Or.inr ⟨_, _, _, (by first | (exfalso; omega) | (unfold FTs; (repeat first | rw [if_pos (by omega)] | rw [if_neg (by omega)]))), rfl, hE89_b, (show (va_up ip 5 x88 5).toInt = _ from hx88), (fun q hq => if_neg hq), hE89_b5, fun j h0 h5 => (oE89 j h0)⟩)
                · refine v_iload_n C 2 dX5_pairFits_80 rfl rfl ?_
                  refine v_iconst (v := 1) C dX5_pairFits_81 (by decide) ?_
                  refine b_icmp_ne C 89 dX5_pairFits_82 (by decide) (rfl : Int32.toInt x = _) (show (1 : Int32).toInt = 1 by decide) (fun c92 => ?_) (fun c92 => ?_)
                  · refine v_iconst (v := 0) C dX5_pairFits_89 (by decide) ?_
                    refine v_istore (lv' := [(0, .ref (ad b)), (1, .int op), (2, .int x), (3, .int y), (4, .int 0), (5, .int 0)]) C [1, 2, 3, 4, 5, 0] dX5_pairFits_90 (by decide) rfl ?_
                    refine v_iload C 4 dX5_pairFits_92 rfl ?_
                    refine b_if_eq C 109 dX5_pairFits_94 (by decide) (show (0 : Int32).toInt = 0 by decide) (fun c93 => ?_) (fun c93 => absurd c93 (by decide))
                    refine v_iload C 4 dX5_pairFits_109 rfl ?_
                    refine b_if_ne C 119 dX5_pairFits_111 (by decide) (show (0 : Int32).toInt = 0 by decide) (fun c94 => absurd c94 (by decide)) (fun c94 => ?_)
                    refine v_iload C 5 dX5_pairFits_114 rfl ?_
                    refine b_if_eq C 129 dX5_pairFits_116 (by decide) (show (0 : Int32).toInt = 0 by decide) (fun c95 => ?_) (fun c95 => absurd c95 (by decide))
                    refine v_iload C 4 dX5_pairFits_129 rfl ?_
                    refine b_if_ne C 139 dX5_pairFits_131 (by decide) (show (0 : Int32).toInt = 0 by decide) (fun c96 => absurd c96 (by decide)) (fun c96 => ?_)
                    refine v_iload C 5 dX5_pairFits_134 rfl ?_
                    refine b_if_eq C 143 dX5_pairFits_136 (by decide) (show (0 : Int32).toInt = 0 by decide) (fun c97 => ?_) (fun c97 => absurd c97 (by decide))
                    refine v_iconst (v := 0) C dX5_pairFits_143 (by decide) ?_
                    exact v_ret C dX5_pairFits_144 rfl rfl (Or.inl ⟨(by first | (exfalso; omega) | (unfold FTs; (repeat first | rw [if_pos (by omega)] | rw [if_neg (by omega)]))), rfl, rfl⟩)
                  · refine v_iconst (v := 1) C dX5_pairFits_85 (by decide) ?_
                    refine v_goto C 90 dX5_pairFits_86 (by decide) ?_
                    refine v_istore (lv' := [(0, .ref (ad b)), (1, .int op), (2, .int x), (3, .int y), (4, .int 0), (5, .int 1)]) C [1, 2, 3, 4, 5, 0] dX5_pairFits_90 (by decide) rfl ?_
                    refine v_iload C 4 dX5_pairFits_92 rfl ?_
                    refine b_if_eq C 109 dX5_pairFits_94 (by decide) (show (0 : Int32).toInt = 0 by decide) (fun c98 => ?_) (fun c98 => absurd c98 (by decide))
                    refine v_iload C 4 dX5_pairFits_109 rfl ?_
                    refine b_if_ne C 119 dX5_pairFits_111 (by decide) (show (0 : Int32).toInt = 0 by decide) (fun c99 => absurd c99 (by decide)) (fun c99 => ?_)
                    refine v_iload C 5 dX5_pairFits_114 rfl ?_
                    refine b_if_eq C 129 dX5_pairFits_116 (by decide) (show (1 : Int32).toInt = 1 by decide) (fun c100 => absurd c100 (by decide)) (fun c100 => ?_)
                    refine v_aload_n C 0 dX5_pairFits_119 rfl rfl ?_
                    refine v_dup C dX5_pairFits_120 rfl ?_
                    refine v_geti (v := ip 5) C b dX5_pairFits_121 fX5_38 (by omega) hEb rfl rfl ?_
                    refine v_iconst (v := 1) C dX5_pairFits_124 (by decide) ?_
                    refine v_isub C dX5_pairFits_125 ?_
                    refine v_top (fun x101 ex101 => ?_)
                    have hx101 : x101.toInt = ((ip 5).toInt - 1) := by rw [ex101]; exact ti_sub (rfl : Int32.toInt (ip 5) = _) (show (1 : Int32).toInt = 1 by decide) (by omega) (by omega)
                    refine v_puti C b dX5_pairFits_126 fX5_38 (by omega) hEb rfl rfl rfl rfl (fun E102 hE102_b oE102 => ?_)
                    have hE102_b5 := (oE102 (b + 5) (by omega)).trans hEb5
                    refine v_iload C 4 dX5_pairFits_129 rfl ?_
                    refine b_if_ne C 139 dX5_pairFits_131 (by decide) (show (0 : Int32).toInt = 0 by decide) (fun c103 => absurd c103 (by decide)) (fun c103 => ?_)
                    refine v_iload C 5 dX5_pairFits_134 rfl ?_
                    refine b_if_eq C 143 dX5_pairFits_136 (by decide) (show (1 : Int32).toInt = 1 by decide) (fun c104 => absurd c104 (by decide)) (fun c104 => ?_)
                    refine v_iconst (v := 1) C dX5_pairFits_139 (by decide) ?_
                    refine v_goto C 144 dX5_pairFits_140 (by decide) ?_
                    exact v_ret C dX5_pairFits_144 rfl rfl (Or.inr ⟨_, _, _, (by first | (exfalso; omega) | (unfold FTs; (repeat first | rw [if_pos (by omega)] | rw [if_neg (by omega)]))), rfl, hE102_b, (show (va_up ip 5 x101 5).toInt = _ from hx101), (fun q hq => if_neg hq), hE102_b5, fun j h0 h5 => (oE102 j h0)⟩)
          · refine v_iconst (v := 1) C dX5_pairFits_58 (by decide) ?_
            refine v_goto C 63 dX5_pairFits_59 (by decide) ?_
            refine v_istore (lv' := [(0, .ref (ad b)), (1, .int op), (2, .int x), (3, .int y), (4, .int 1)]) C [1, 2, 3, 4, 0] dX5_pairFits_63 (by decide) rfl ?_
            refine v_iload_n C 1 dX5_pairFits_65 rfl rfl ?_
            refine v_bipush (v := 9) C dX5_pairFits_66 (by decide) ?_
            refine b_icmp_ne C 89 dX5_pairFits_68 (by decide) (rfl : Int32.toInt op = _) (show (9 : Int32).toInt = 9 by decide) (fun c105 => ?_) (fun c105 => ?_)
            · refine v_iconst (v := 0) C dX5_pairFits_89 (by decide) ?_
              refine v_istore (lv' := [(0, .ref (ad b)), (1, .int op), (2, .int x), (3, .int y), (4, .int 1), (5, .int 0)]) C [1, 2, 3, 4, 5, 0] dX5_pairFits_90 (by decide) rfl ?_
              refine v_iload C 4 dX5_pairFits_92 rfl ?_
              refine b_if_eq C 109 dX5_pairFits_94 (by decide) (show (1 : Int32).toInt = 1 by decide) (fun c106 => absurd c106 (by decide)) (fun c106 => ?_)
              refine v_aload_n C 0 dX5_pairFits_97 rfl rfl ?_
              refine v_getr C b dX5_pairFits_98 fX5_24 (by omega) hEb rfl rfl ?_
              refine v_aload_n C 0 dX5_pairFits_101 rfl rfl ?_
              refine v_geti (v := ip 5) C b dX5_pairFits_102 fX5_38 (by omega) hEb rfl rfl ?_
              refine v_iconst (v := 2) C dX5_pairFits_105 (by decide) ?_
              refine v_isub C dX5_pairFits_106 ?_
              refine v_top (fun x107 ex107 => ?_)
              have hx107 : x107.toInt = ((ip 5).toInt - 2) := by rw [ex107]; exact ti_sub (rfl : Int32.toInt (ip 5) = _) (show (2 : Int32).toInt = 2 by decide) (by omega) (by omega)
              refine v_iconst (v := 3) C dX5_pairFits_107 (by decide) ?_
              refine v_ast C (b + 5) dX5_pairFits_108 (by omega) hEb5 (ti_in hx107 (by omega) (by omega)) (fun E108 hE108_b5 oE108 => ?_)
              rw [ti_cl hx107] at hE108_b5
              have hE108_b := (oE108 b (by omega)).trans hEb
              refine v_iload C 4 dX5_pairFits_109 rfl ?_
              refine b_if_ne C 119 dX5_pairFits_111 (by decide) (show (1 : Int32).toInt = 1 by decide) (fun c109 => ?_) (fun c109 => absurd c109 (by decide))
              refine v_aload_n C 0 dX5_pairFits_119 rfl rfl ?_
              refine v_dup C dX5_pairFits_120 rfl ?_
              refine v_geti (v := ip 5) C b dX5_pairFits_121 fX5_38 (by omega) hE108_b rfl rfl ?_
              refine v_iconst (v := 1) C dX5_pairFits_124 (by decide) ?_
              refine v_isub C dX5_pairFits_125 ?_
              refine v_top (fun x110 ex110 => ?_)
              have hx110 : x110.toInt = ((ip 5).toInt - 1) := by rw [ex110]; exact ti_sub (rfl : Int32.toInt (ip 5) = _) (show (1 : Int32).toInt = 1 by decide) (by omega) (by omega)
              refine v_puti C b dX5_pairFits_126 fX5_38 (by omega) hE108_b rfl rfl rfl rfl (fun E111 hE111_b oE111 => ?_)
              have hE111_b5 := (oE111 (b + 5) (by omega)).trans hE108_b5
              refine v_iload C 4 dX5_pairFits_129 rfl ?_
              refine b_if_ne C 139 dX5_pairFits_131 (by decide) (show (1 : Int32).toInt = 1 by decide) (fun c112 => ?_) (fun c112 => absurd c112 (by decide))
              refine v_iconst (v := 1) C dX5_pairFits_139 (by decide) ?_
              refine v_goto C 144 dX5_pairFits_140 (by decide) ?_
              exact v_ret C dX5_pairFits_144 rfl rfl (Or.inr ⟨_, _, _, (by first | (exfalso; omega) | (unfold FTs; (repeat first | rw [if_pos (by omega)] | rw [if_neg (by omega)]))), rfl, hE111_b, (show (va_up ip 5 x110 5).toInt = _ from hx110), (fun q hq => if_neg hq), hE111_b5, fun j h0 h5 => ((oE111 j h0).trans (oE108 j h5))⟩)
            · refine v_iload_n C 3 dX5_pairFits_71 rfl rfl ?_
              refine v_iconst (v := 3) C dX5_pairFits_72 (by decide) ?_
              refine b_icmp_ne C 89 dX5_pairFits_73 (by decide) (rfl : Int32.toInt y = _) (show (3 : Int32).toInt = 3 by decide) (fun c113 => ?_) (fun c113 => ?_)
              · refine v_iconst (v := 0) C dX5_pairFits_89 (by decide) ?_
                refine v_istore (lv' := [(0, .ref (ad b)), (1, .int op), (2, .int x), (3, .int y), (4, .int 1), (5, .int 0)]) C [1, 2, 3, 4, 5, 0] dX5_pairFits_90 (by decide) rfl ?_
                refine v_iload C 4 dX5_pairFits_92 rfl ?_
                refine b_if_eq C 109 dX5_pairFits_94 (by decide) (show (1 : Int32).toInt = 1 by decide) (fun c114 => absurd c114 (by decide)) (fun c114 => ?_)
                refine v_aload_n C 0 dX5_pairFits_97 rfl rfl ?_
                refine v_getr C b dX5_pairFits_98 fX5_24 (by omega) hEb rfl rfl ?_
                refine v_aload_n C 0 dX5_pairFits_101 rfl rfl ?_
                refine v_geti (v := ip 5) C b dX5_pairFits_102 fX5_38 (by omega) hEb rfl rfl ?_
                refine v_iconst (v := 2) C dX5_pairFits_105 (by decide) ?_
                refine v_isub C dX5_pairFits_106 ?_
                refine v_top (fun x115 ex115 => ?_)
                have hx115 : x115.toInt = ((ip 5).toInt - 2) := by rw [ex115]; exact ti_sub (rfl : Int32.toInt (ip 5) = _) (show (2 : Int32).toInt = 2 by decide) (by omega) (by omega)
                refine v_iconst (v := 3) C dX5_pairFits_107 (by decide) ?_
                refine v_ast C (b + 5) dX5_pairFits_108 (by omega) hEb5 (ti_in hx115 (by omega) (by omega)) (fun E116 hE116_b5 oE116 => ?_)
                rw [ti_cl hx115] at hE116_b5
                have hE116_b := (oE116 b (by omega)).trans hEb
                refine v_iload C 4 dX5_pairFits_109 rfl ?_
                refine b_if_ne C 119 dX5_pairFits_111 (by decide) (show (1 : Int32).toInt = 1 by decide) (fun c117 => ?_) (fun c117 => absurd c117 (by decide))
                refine v_aload_n C 0 dX5_pairFits_119 rfl rfl ?_
                refine v_dup C dX5_pairFits_120 rfl ?_
                refine v_geti (v := ip 5) C b dX5_pairFits_121 fX5_38 (by omega) hE116_b rfl rfl ?_
                refine v_iconst (v := 1) C dX5_pairFits_124 (by decide) ?_
                refine v_isub C dX5_pairFits_125 ?_
                refine v_top (fun x118 ex118 => ?_)
                have hx118 : x118.toInt = ((ip 5).toInt - 1) := by rw [ex118]; exact ti_sub (rfl : Int32.toInt (ip 5) = _) (show (1 : Int32).toInt = 1 by decide) (by omega) (by omega)
                refine v_puti C b dX5_pairFits_126 fX5_38 (by omega) hE116_b rfl rfl rfl rfl (fun E119 hE119_b oE119 => ?_)
                have hE119_b5 := (oE119 (b + 5) (by omega)).trans hE116_b5
                refine v_iload C 4 dX5_pairFits_129 rfl ?_
                refine b_if_ne C 139 dX5_pairFits_131 (by decide) (show (1 : Int32).toInt = 1 by decide) (fun c120 => ?_) (fun c120 => absurd c120 (by decide))
                refine v_iconst (v := 1) C dX5_pairFits_139 (by decide) ?_
                refine v_goto C 144 dX5_pairFits_140 (by decide) ?_
                exact v_ret C dX5_pairFits_144 rfl rfl (Or.inr ⟨_, _, _, (by first | (exfalso; omega) | (unfold FTs; (repeat first | rw [if_pos (by omega)] | rw [if_neg (by omega)]))), rfl, hE119_b, (show (va_up ip 5 x118 5).toInt = _ from hx118), (fun q hq => if_neg hq), hE119_b5, fun j h0 h5 => ((oE119 j h0).trans (oE116 j h5))⟩)
              · refine v_iload_n C 2 dX5_pairFits_76 rfl rfl ?_
                refine b_if_eq C 85 dX5_pairFits_77 (by decide) (rfl : Int32.toInt x = _) (fun c121 => ?_) (fun c121 => ?_)
                · refine v_iconst (v := 1) C dX5_pairFits_85 (by decide) ?_
                  refine v_goto C 90 dX5_pairFits_86 (by decide) ?_
                  refine v_istore (lv' := [(0, .ref (ad b)), (1, .int op), (2, .int x), (3, .int y), (4, .int 1), (5, .int 1)]) C [1, 2, 3, 4, 5, 0] dX5_pairFits_90 (by decide) rfl ?_
                  refine v_iload C 4 dX5_pairFits_92 rfl ?_
                  refine b_if_eq C 109 dX5_pairFits_94 (by decide) (show (1 : Int32).toInt = 1 by decide) (fun c122 => absurd c122 (by decide)) (fun c122 => ?_)
                  refine v_aload_n C 0 dX5_pairFits_97 rfl rfl ?_
                  refine v_getr C b dX5_pairFits_98 fX5_24 (by omega) hEb rfl rfl ?_
                  refine v_aload_n C 0 dX5_pairFits_101 rfl rfl ?_
                  refine v_geti (v := ip 5) C b dX5_pairFits_102 fX5_38 (by omega) hEb rfl rfl ?_
                  refine v_iconst (v := 2) C dX5_pairFits_105 (by decide) ?_
                  refine v_isub C dX5_pairFits_106 ?_
                  refine v_top (fun x123 ex123 => ?_)
                  have hx123 : x123.toInt = ((ip 5).toInt - 2) := by rw [ex123]; exact ti_sub (rfl : Int32.toInt (ip 5) = _) (show (2 : Int32).toInt = 2 by decide) (by omega) (by omega)
                  refine v_iconst (v := 3) C dX5_pairFits_107 (by decide) ?_
                  refine v_ast C (b + 5) dX5_pairFits_108 (by omega) hEb5 (ti_in hx123 (by omega) (by omega)) (fun E124 hE124_b5 oE124 => ?_)
                  rw [ti_cl hx123] at hE124_b5
                  have hE124_b := (oE124 b (by omega)).trans hEb
                  refine v_iload C 4 dX5_pairFits_109 rfl ?_
                  refine b_if_ne C 119 dX5_pairFits_111 (by decide) (show (1 : Int32).toInt = 1 by decide) (fun c125 => ?_) (fun c125 => absurd c125 (by decide))
                  refine v_aload_n C 0 dX5_pairFits_119 rfl rfl ?_
                  refine v_dup C dX5_pairFits_120 rfl ?_
                  refine v_geti (v := ip 5) C b dX5_pairFits_121 fX5_38 (by omega) hE124_b rfl rfl ?_
                  refine v_iconst (v := 1) C dX5_pairFits_124 (by decide) ?_
                  refine v_isub C dX5_pairFits_125 ?_
                  refine v_top (fun x126 ex126 => ?_)
                  have hx126 : x126.toInt = ((ip 5).toInt - 1) := by rw [ex126]; exact ti_sub (rfl : Int32.toInt (ip 5) = _) (show (1 : Int32).toInt = 1 by decide) (by omega) (by omega)
                  refine v_puti C b dX5_pairFits_126 fX5_38 (by omega) hE124_b rfl rfl rfl rfl (fun E127 hE127_b oE127 => ?_)
                  have hE127_b5 := (oE127 (b + 5) (by omega)).trans hE124_b5
                  refine v_iload C 4 dX5_pairFits_129 rfl ?_
                  refine b_if_ne C 139 dX5_pairFits_131 (by decide) (show (1 : Int32).toInt = 1 by decide) (fun c128 => ?_) (fun c128 => absurd c128 (by decide))
                  refine v_iconst (v := 1) C dX5_pairFits_139 (by decide) ?_
                  refine v_goto C 144 dX5_pairFits_140 (by decide) ?_
                  exact v_ret C dX5_pairFits_144 rfl rfl (Or.inr ⟨_, _, _, (by first | (exfalso; omega) | (unfold FTs; (repeat first | rw [if_pos (by omega)] | rw [if_neg (by omega)]))), rfl, hE127_b, (show (va_up ip 5 x126 5).toInt = _ from hx126), (fun q hq => if_neg hq), hE127_b5, fun j h0 h5 => ((oE127 j h0).trans (oE124 j h5))⟩)
                · refine v_iload_n C 2 dX5_pairFits_80 rfl rfl ?_
                  refine v_iconst (v := 1) C dX5_pairFits_81 (by decide) ?_
                  refine b_icmp_ne C 89 dX5_pairFits_82 (by decide) (rfl : Int32.toInt x = _) (show (1 : Int32).toInt = 1 by decide) (fun c129 => ?_) (fun c129 => ?_)
                  · refine v_iconst (v := 0) C dX5_pairFits_89 (by decide) ?_
                    refine v_istore (lv' := [(0, .ref (ad b)), (1, .int op), (2, .int x), (3, .int y), (4, .int 1), (5, .int 0)]) C [1, 2, 3, 4, 5, 0] dX5_pairFits_90 (by decide) rfl ?_
                    refine v_iload C 4 dX5_pairFits_92 rfl ?_
                    refine b_if_eq C 109 dX5_pairFits_94 (by decide) (show (1 : Int32).toInt = 1 by decide) (fun c130 => absurd c130 (by decide)) (fun c130 => ?_)
                    refine v_aload_n C 0 dX5_pairFits_97 rfl rfl ?_
                    refine v_getr C b dX5_pairFits_98 fX5_24 (by omega) hEb rfl rfl ?_
                    refine v_aload_n C 0 dX5_pairFits_101 rfl rfl ?_
                    refine v_geti (v := ip 5) C b dX5_pairFits_102 fX5_38 (by omega) hEb rfl rfl ?_
                    refine v_iconst (v := 2) C dX5_pairFits_105 (by decide) ?_
                    refine v_isub C dX5_pairFits_106 ?_
                    refine v_top (fun x131 ex131 => ?_)
                    have hx131 : x131.toInt = ((ip 5).toInt - 2) := by rw [ex131]; exact ti_sub (rfl : Int32.toInt (ip 5) = _) (show (2 : Int32).toInt = 2 by decide) (by omega) (by omega)
                    refine v_iconst (v := 3) C dX5_pairFits_107 (by decide) ?_
                    refine v_ast C (b + 5) dX5_pairFits_108 (by omega) hEb5 (ti_in hx131 (by omega) (by omega)) (fun E132 hE132_b5 oE132 => ?_)
                    rw [ti_cl hx131] at hE132_b5
                    have hE132_b := (oE132 b (by omega)).trans hEb
                    refine v_iload C 4 dX5_pairFits_109 rfl ?_
                    refine b_if_ne C 119 dX5_pairFits_111 (by decide) (show (1 : Int32).toInt = 1 by decide) (fun c133 => ?_) (fun c133 => absurd c133 (by decide))
                    refine v_aload_n C 0 dX5_pairFits_119 rfl rfl ?_
                    refine v_dup C dX5_pairFits_120 rfl ?_
                    refine v_geti (v := ip 5) C b dX5_pairFits_121 fX5_38 (by omega) hE132_b rfl rfl ?_
                    refine v_iconst (v := 1) C dX5_pairFits_124 (by decide) ?_
                    refine v_isub C dX5_pairFits_125 ?_
                    refine v_top (fun x134 ex134 => ?_)
                    have hx134 : x134.toInt = ((ip 5).toInt - 1) := by rw [ex134]; exact ti_sub (rfl : Int32.toInt (ip 5) = _) (show (1 : Int32).toInt = 1 by decide) (by omega) (by omega)
                    refine v_puti C b dX5_pairFits_126 fX5_38 (by omega) hE132_b rfl rfl rfl rfl (fun E135 hE135_b oE135 => ?_)
                    have hE135_b5 := (oE135 (b + 5) (by omega)).trans hE132_b5
                    refine v_iload C 4 dX5_pairFits_129 rfl ?_
                    refine b_if_ne C 139 dX5_pairFits_131 (by decide) (show (1 : Int32).toInt = 1 by decide) (fun c136 => ?_) (fun c136 => absurd c136 (by decide))
                    refine v_iconst (v := 1) C dX5_pairFits_139 (by decide) ?_
                    refine v_goto C 144 dX5_pairFits_140 (by decide) ?_
                    exact v_ret C dX5_pairFits_144 rfl rfl (Or.inr ⟨_, _, _, (by first | (exfalso; omega) | (unfold FTs; (repeat first | rw [if_pos (by omega)] | rw [if_neg (by omega)]))), rfl, hE135_b, (show (va_up ip 5 x134 5).toInt = _ from hx134), (fun q hq => if_neg hq), hE135_b5, fun j h0 h5 => ((oE135 j h0).trans (oE132 j h5))⟩)
                  · refine v_iconst (v := 1) C dX5_pairFits_85 (by decide) ?_
                    refine v_goto C 90 dX5_pairFits_86 (by decide) ?_
                    refine v_istore (lv' := [(0, .ref (ad b)), (1, .int op), (2, .int x), (3, .int y), (4, .int 1), (5, .int 1)]) C [1, 2, 3, 4, 5, 0] dX5_pairFits_90 (by decide) rfl ?_
                    refine v_iload C 4 dX5_pairFits_92 rfl ?_
                    refine b_if_eq C 109 dX5_pairFits_94 (by decide) (show (1 : Int32).toInt = 1 by decide) (fun c137 => absurd c137 (by decide)) (fun c137 => ?_)
                    refine v_aload_n C 0 dX5_pairFits_97 rfl rfl ?_
                    refine v_getr C b dX5_pairFits_98 fX5_24 (by omega) hEb rfl rfl ?_
                    refine v_aload_n C 0 dX5_pairFits_101 rfl rfl ?_
                    refine v_geti (v := ip 5) C b dX5_pairFits_102 fX5_38 (by omega) hEb rfl rfl ?_
                    refine v_iconst (v := 2) C dX5_pairFits_105 (by decide) ?_
                    refine v_isub C dX5_pairFits_106 ?_
                    refine v_top (fun x138 ex138 => ?_)
                    have hx138 : x138.toInt = ((ip 5).toInt - 2) := by rw [ex138]; exact ti_sub (rfl : Int32.toInt (ip 5) = _) (show (2 : Int32).toInt = 2 by decide) (by omega) (by omega)
                    refine v_iconst (v := 3) C dX5_pairFits_107 (by decide) ?_
                    refine v_ast C (b + 5) dX5_pairFits_108 (by omega) hEb5 (ti_in hx138 (by omega) (by omega)) (fun E139 hE139_b5 oE139 => ?_)
                    rw [ti_cl hx138] at hE139_b5
                    have hE139_b := (oE139 b (by omega)).trans hEb
                    refine v_iload C 4 dX5_pairFits_109 rfl ?_
                    refine b_if_ne C 119 dX5_pairFits_111 (by decide) (show (1 : Int32).toInt = 1 by decide) (fun c140 => ?_) (fun c140 => absurd c140 (by decide))
                    refine v_aload_n C 0 dX5_pairFits_119 rfl rfl ?_
                    refine v_dup C dX5_pairFits_120 rfl ?_
                    refine v_geti (v := ip 5) C b dX5_pairFits_121 fX5_38 (by omega) hE139_b rfl rfl ?_
                    refine v_iconst (v := 1) C dX5_pairFits_124 (by decide) ?_
                    refine v_isub C dX5_pairFits_125 ?_
                    refine v_top (fun x141 ex141 => ?_)
                    have hx141 : x141.toInt = ((ip 5).toInt - 1) := by rw [ex141]; exact ti_sub (rfl : Int32.toInt (ip 5) = _) (show (1 : Int32).toInt = 1 by decide) (by omega) (by omega)
                    refine v_puti C b dX5_pairFits_126 fX5_38 (by omega) hE139_b rfl rfl rfl rfl (fun E142 hE142_b oE142 => ?_)
                    have hE142_b5 := (oE142 (b + 5) (by omega)).trans hE139_b5
                    refine v_iload C 4 dX5_pairFits_129 rfl ?_
                    refine b_if_ne C 139 dX5_pairFits_131 (by decide) (show (1 : Int32).toInt = 1 by decide) (fun c143 => ?_) (fun c143 => absurd c143 (by decide))
                    refine v_iconst (v := 1) C dX5_pairFits_139 (by decide) ?_
                    refine v_goto C 144 dX5_pairFits_140 (by decide) ?_
                    exact v_ret C dX5_pairFits_144 rfl rfl (Or.inr ⟨_, _, _, (by first | (exfalso; omega) | (unfold FTs; (repeat first | rw [if_pos (by omega)] | rw [if_neg (by omega)]))), rfl, hE142_b, (show (va_up ip 5 x141 5).toInt = _ from hx141), (fun q hq => if_neg hq), hE142_b5, fun j h0 h5 => ((oE142 j h0).trans (oE139 j h5))⟩)
    · refine v_aload_n C 0 dX5_pairFits_16 rfl rfl ?_
      refine v_getr C b dX5_pairFits_17 fX5_24 (by omega) hEb rfl rfl ?_
      refine v_aload_n C 0 dX5_pairFits_20 rfl rfl ?_
      refine v_geti (v := ip 5) C b dX5_pairFits_21 fX5_38 (by omega) hEb rfl rfl ?_
      refine v_iconst (v := 2) C dX5_pairFits_24 (by decide) ?_
      refine v_isub C dX5_pairFits_25 ?_
      refine v_top (fun x144 ex144 => ?_)
      have hx144 : x144.toInt = ((ip 5).toInt - 2) := by rw [ex144]; exact ti_sub (rfl : Int32.toInt (ip 5) = _) (show (2 : Int32).toInt = 2 by decide) (by omega) (by omega)
      refine v_iload_n C 3 dX5_pairFits_26 rfl rfl ?_
      refine v_ast C (b + 5) dX5_pairFits_27 (by omega) hEb5 (ti_in hx144 (by omega) (by omega)) (fun E145 hE145_b5 oE145 => ?_)
      rw [ti_cl hx144] at hE145_b5
      have hE145_b := (oE145 b (by omega)).trans hEb
      refine v_aload_n C 0 dX5_pairFits_28 rfl rfl ?_
      refine v_getr C b dX5_pairFits_29 fX5_24 (by omega) hE145_b rfl rfl ?_
      refine v_aload_n C 0 dX5_pairFits_32 rfl rfl ?_
      refine v_geti (v := ip 5) C b dX5_pairFits_33 fX5_38 (by omega) hE145_b rfl rfl ?_
      refine v_iconst (v := 1) C dX5_pairFits_36 (by decide) ?_
      refine v_isub C dX5_pairFits_37 ?_
      refine v_top (fun x146 ex146 => ?_)
      have hx146 : x146.toInt = ((ip 5).toInt - 1) := by rw [ex146]; exact ti_sub (rfl : Int32.toInt (ip 5) = _) (show (1 : Int32).toInt = 1 by decide) (by omega) (by omega)
      refine v_iload_n C 2 dX5_pairFits_38 rfl rfl ?_
      refine v_ast C (b + 5) dX5_pairFits_39 (by omega) hE145_b5 (ti_in hx146 (by omega) (by omega)) (fun E147 hE147_b5 oE147 => ?_)
      rw [ti_cl hx146] at hE147_b5
      have hE147_b := (oE147 b (by omega)).trans hE145_b
      refine v_iconst (v := 1) C dX5_pairFits_40 (by decide) ?_
      exact v_ret C dX5_pairFits_41 rfl rfl (Or.inr ⟨_, _, _, (by first | (exfalso; omega) | (unfold FTs; (repeat first | rw [if_pos (by omega)] | rw [if_neg (by omega)]))), rfl, hE147_b, rfl, (fun _ _ => rfl), (hE147_b5.trans (by rw [hx, hy, upd_comm (by omega)])), fun j h0 h5 => ((oE147 j h5).trans (oE145 j h5))⟩)
  · refine v_iconst (v := 0) C dX5_pairFits_8 (by decide) ?_
    exact v_ret C dX5_pairFits_9 rfl rfl (Or.inl ⟨(by first | (exfalso; omega) | (unfold FTs; (repeat first | rw [if_pos (by omega)] | rw [if_neg (by omega)]))), rfl, rfl⟩)

set_option maxRecDepth 20000 in
theorem f_fits (l : Launch) (G : Gl) (n : Nat) (ad : Nat → Nat) (E : Nat → va_E) (b : Nat) (hb : b + 6 ≤ n) {ip kd : Nat → Int32} (hEb : E b = ob 5 (rP ad b) ip) (hEb5 : E (b + 5) = aI G 8 kd) (hh1 : 0 ≤ (ip 5).toInt) (hh2 : (ip 5).toInt ≤ 8) (op : Int32) (hop : 0 ≤ op.toInt ∧ op.toInt ≤ 11) (hok : okK (ip 5).toInt kd)  : CtI l G yX5_fits cX5_fits 3 .boolean 1 25 n ad E [.ref (ad b), .int op] (fun r E' => (FTs op.toInt (ip 5).toInt kd = none ∧ r = 0 ∧ E = E') ∨ (∃ (h1 : Int) (K1 ip1 : Nat → Int32), FTs op.toInt (ip 5).toInt kd = some (h1, K1) ∧ r = 1 ∧ E' b = ob 5 (rP ad b) ip1 ∧ (ip1 5).toInt = h1 ∧ (∀ q, q ≠ 5 → ip1 q = ip q) ∧ E' (b + 5) = aI G 8 K1 ∧ ∀ j, j ≠ b → j ≠ b + 5 → E' j = E j)) := by
  refine CtI.of (by decide) (Nat.le_of_ble_eq_true rfl) (fun X A C => ?_)
  refine v_sub (lv' := [(0, .ref (ad b)), (1, .int op)]) [0, 1] rfl ?_
  refine v_aload_n C 0 dX5_fits_0 rfl rfl ?_
  refine v_geti (v := ip 5) C b dX5_fits_1 fX5_38 (by omega) hEb rfl rfl ?_
  refine b_if_le C 21 dX5_fits_4 (by decide) (rfl : Int32.toInt (ip 5) = _) (fun c1 => ?_) (fun c1 => ?_)
  · refine v_iconst (v := (-1)) C dX5_fits_21 (by decide) ?_
    refine v_istore_n (lv' := [(0, .ref (ad b)), (1, .int op), (2, .int (-1))]) C [1, 2, 0] dX5_fits_22 rfl (by decide) rfl ?_
    refine v_iload_n C 1 dX5_fits_23 rfl rfl ?_
    have q2v : Int32.toInt op = op.toInt := (rfl : Int32.toInt op = _)
    rcases (show op.toInt = 0 ∨ op.toInt = 1 ∨ op.toInt = 2 ∨ op.toInt = 3 ∨ op.toInt = 4 ∨ op.toInt = 5 ∨ op.toInt = 6 ∨ op.toInt = 7 ∨ op.toInt = 8 ∨ op.toInt = 9 ∨ op.toInt = 10 ∨ (op.toInt < 0 ∨ 10 < op.toInt) by omega) with q2 | q2 | q2 | q2 | q2 | q2 | q2 | q2 | q2 | q2 | q2 | q2
    · refine v_tableIn (off := 60) C 84 dX5_fits_24 (by omega) (by omega) (by rw [q2v, q2]; rfl) (by decide) ?_
      refine v_aload_n C 0 dX5_fits_84 rfl rfl ?_
      refine v_iconst (v := 0) C dX5_fits_85 (by decide) ?_
      refine v_cVi C dX5_fits_86 lX5_51 mX5_push b (by omega) hEb (by decide) rfl (f_push l G n ad _ b hb hEb hEb5 hh1 hh2 0) ⟨by decide, by decide⟩ rfl (Nat.le_of_ble_eq_true rfl) ⟨Nat.zero_le _, Nat.zero_le _⟩ (fun r3 E4 hq5 => ?_)
      rcases hq5 with ⟨hc6, rfl, rfl⟩ | ⟨hc6, rfl, z6, hz6, hB6, hD6, hO6⟩
      · exact v_ret C dX5_fits_89 rfl rfl (Or.inl ⟨(by first | (exfalso; omega) | (unfold FTs; (repeat first | rw [if_pos (by omega)] | rw [if_neg (by omega)]))), rfl, rfl⟩)
      · exact v_ret C dX5_fits_89 rfl rfl (Or.inr ⟨_, _, _, (by first | (exfalso; omega) | (unfold FTs; (repeat first | rw [if_pos (by omega)] | rw [if_neg (by omega)]))), rfl, hB6, (show (va_up ip 5 z6 5).toInt = _ from hz6), (fun q hq => if_neg hq), hD6, fun j h0 h5 => (hO6 j h0 h5)⟩)
    · refine v_tableIn (off := 66) C 90 dX5_fits_24 (by omega) (by omega) (by rw [q2v, q2]; rfl) (by decide) ?_
      refine v_aload_n C 0 dX5_fits_90 rfl rfl ?_
      refine v_iconst (v := 0) C dX5_fits_91 (by decide) ?_
      refine v_iconst (v := 1) C dX5_fits_92 (by decide) ?_
      refine v_cVi C dX5_fits_93 lX5_54 mX5_become b (by omega) hEb (by decide) rfl (f_become l G n ad _ b hb hEb hEb5 hh1 hh2 0 1) ⟨by decide, by decide⟩ rfl (Nat.le_of_ble_eq_true rfl) ⟨Nat.zero_le _, Nat.zero_le _⟩ (fun r7 E8 hq9 => ?_)
      rw [show (0 : Int32).toInt = 0 by decide] at hq9
      rcases hq9 with ⟨hc10, rfl, rfl⟩ | ⟨hc10, rfl, hD10, hO10⟩
      · exact v_ret C dX5_fits_96 rfl rfl (Or.inl ⟨(by first | (exfalso; omega) | (unfold FTs; (repeat first | rw [if_pos (by omega)] | rw [if_neg (by omega)]))), rfl, rfl⟩)
      · have hB10 := (hO10 b (by omega)).trans hEb
        exact v_ret C dX5_fits_96 rfl rfl (Or.inr ⟨_, _, _, (by first | (exfalso; omega) | (unfold FTs; (repeat first | rw [if_pos (by omega)] | rw [if_neg (by omega)]))), rfl, hB10, rfl, (fun _ _ => rfl), hD10, fun j h0 h5 => (hO10 j h5)⟩)
    · refine v_tableIn (off := 73) C 97 dX5_fits_24 (by omega) (by omega) (by rw [q2v, q2]; rfl) (by decide) ?_
      refine v_aload_n C 0 dX5_fits_97 rfl rfl ?_
      refine v_iconst (v := 1) C dX5_fits_98 (by decide) ?_
      refine v_iconst (v := 2) C dX5_fits_99 (by decide) ?_
      refine v_cVi C dX5_fits_100 lX5_54 mX5_become b (by omega) hEb (by decide) rfl (f_become l G n ad _ b hb hEb hEb5 hh1 hh2 1 2) ⟨by decide, by decide⟩ rfl (Nat.le_of_ble_eq_true rfl) ⟨Nat.zero_le _, Nat.zero_le _⟩ (fun r11 E12 hq13 => ?_)
      rw [show (1 : Int32).toInt = 1 by decide] at hq13
      rcases hq13 with ⟨hc14, rfl, rfl⟩ | ⟨hc14, rfl, hD14, hO14⟩
      · exact v_ret C dX5_fits_103 rfl rfl (Or.inl ⟨(by first | (exfalso; omega) | (unfold FTs; (repeat first | rw [if_pos (by omega)] | rw [if_neg (by omega)]))), rfl, rfl⟩)
      · have hB14 := (hO14 b (by omega)).trans hEb
        exact v_ret C dX5_fits_103 rfl rfl (Or.inr ⟨_, _, _, (by first | (exfalso; omega) | (unfold FTs; (repeat first | rw [if_pos (by omega)] | rw [if_neg (by omega)]))), rfl, hB14, rfl, (fun _ _ => rfl), hD14, fun j h0 h5 => (hO14 j h5)⟩)
    · refine v_tableIn (off := 80) C 104 dX5_fits_24 (by omega) (by omega) (by rw [q2v, q2]; rfl) (by decide) ?_
      refine v_aload_n C 0 dX5_fits_104 rfl rfl ?_
      refine v_iconst (v := 2) C dX5_fits_105 (by decide) ?_
      refine v_iconst (v := 1) C dX5_fits_106 (by decide) ?_
      refine v_cVi C dX5_fits_107 lX5_54 mX5_become b (by omega) hEb (by decide) rfl (f_become l G n ad _ b hb hEb hEb5 hh1 hh2 2 1) ⟨by decide, by decide⟩ rfl (Nat.le_of_ble_eq_true rfl) ⟨Nat.zero_le _, Nat.zero_le _⟩ (fun r15 E16 hq17 => ?_)
      rw [show (2 : Int32).toInt = 2 by decide] at hq17
      rcases hq17 with ⟨hc18, rfl, rfl⟩ | ⟨hc18, rfl, hD18, hO18⟩
      · exact v_ret C dX5_fits_110 rfl rfl (Or.inl ⟨(by first | (exfalso; omega) | (unfold FTs; (repeat first | rw [if_pos (by omega)] | rw [if_neg (by omega)]))), rfl, rfl⟩)
      · have hB18 := (hO18 b (by omega)).trans hEb
        exact v_ret C dX5_fits_110 rfl rfl (Or.inr ⟨_, _, _, (by first | (exfalso; omega) | (unfold FTs; (repeat first | rw [if_pos (by omega)] | rw [if_neg (by omega)]))), rfl, hB18, rfl, (fun _ _ => rfl), hD18, fun j h0 h5 => (hO18 j h5)⟩)
    · refine v_tableIn (off := 87) C 111 dX5_fits_24 (by omega) (by omega) (by rw [q2v, q2]; rfl) (by decide) ?_
      refine v_aload_n C 0 dX5_fits_111 rfl rfl ?_
      refine v_iconst (v := 1) C dX5_fits_112 (by decide) ?_
      refine v_iconst (v := 0) C dX5_fits_113 (by decide) ?_
      refine v_cVi C dX5_fits_114 lX5_54 mX5_become b (by omega) hEb (by decide) rfl (f_become l G n ad _ b hb hEb hEb5 hh1 hh2 1 0) ⟨by decide, by decide⟩ rfl (Nat.le_of_ble_eq_true rfl) ⟨Nat.zero_le _, Nat.zero_le _⟩ (fun r19 E20 hq21 => ?_)
      rw [show (1 : Int32).toInt = 1 by decide] at hq21
      rcases hq21 with ⟨hc22, rfl, rfl⟩ | ⟨hc22, rfl, hD22, hO22⟩
      · exact v_ret C dX5_fits_117 rfl rfl (Or.inl ⟨(by first | (exfalso; omega) | (unfold FTs; (repeat first | rw [if_pos (by omega)] | rw [if_neg (by omega)]))), rfl, rfl⟩)
      · have hB22 := (hO22 b (by omega)).trans hEb
        exact v_ret C dX5_fits_117 rfl rfl (Or.inr ⟨_, _, _, (by first | (exfalso; omega) | (unfold FTs; (repeat first | rw [if_pos (by omega)] | rw [if_neg (by omega)]))), rfl, hB22, rfl, (fun _ _ => rfl), hD22, fun j h0 h5 => (hO22 j h5)⟩)
    · refine v_tableIn (off := 94) C 118 dX5_fits_24 (by omega) (by omega) (by rw [q2v, q2]; rfl) (by decide) ?_
      refine v_iload_n C 2 dX5_fits_118 rfl rfl ?_
      refine b_if_eq C 127 dX5_fits_119 (by decide) (show ((-1) : Int32).toInt = (-1) by decide) (fun c23 => absurd c23 (by decide)) (fun c23 => ?_)
      refine v_iload_n C 2 dX5_fits_122 rfl rfl ?_
      refine v_iconst (v := 1) C dX5_fits_123 (by decide) ?_
      refine b_icmp_ne C 131 dX5_fits_124 (by decide) (show ((-1) : Int32).toInt = (-1) by decide) (show (1 : Int32).toInt = 1 by decide) (fun c24 => ?_) (fun c24 => absurd c24 (by decide))
      refine v_iconst (v := 0) C dX5_fits_131 (by decide) ?_
      exact v_ret C dX5_fits_132 rfl rfl (Or.inl ⟨(by first | (exfalso; omega) | (unfold FTs; (repeat first | rw [if_pos (by omega)] | rw [if_neg (by omega)]))), rfl, rfl⟩)
    · refine v_tableIn (off := 109) C 133 dX5_fits_24 (by omega) (by omega) (by rw [q2v, q2]; rfl) (by decide) ?_
      refine v_iload_n C 2 dX5_fits_133 rfl rfl ?_
      refine v_iconst (v := 2) C dX5_fits_134 (by decide) ?_
      refine b_icmp_eq C 143 dX5_fits_135 (by decide) (show ((-1) : Int32).toInt = (-1) by decide) (show (2 : Int32).toInt = 2 by decide) (fun c25 => absurd c25 (by decide)) (fun c25 => ?_)
      refine v_iload_n C 2 dX5_fits_138 rfl rfl ?_
      refine v_iconst (v := 1) C dX5_fits_139 (by decide) ?_
      refine b_icmp_ne C 147 dX5_fits_140 (by decide) (show ((-1) : Int32).toInt = (-1) by decide) (show (1 : Int32).toInt = 1 by decide) (fun c26 => ?_) (fun c26 => absurd c26 (by decide))
      refine v_iconst (v := 0) C dX5_fits_147 (by decide) ?_
      exact v_ret C dX5_fits_148 rfl rfl (Or.inl ⟨(by first | (exfalso; omega) | (unfold FTs; (repeat first | rw [if_pos (by omega)] | rw [if_neg (by omega)]))), rfl, rfl⟩)
    · refine v_tableIn (off := 125) C 149 dX5_fits_24 (by omega) (by omega) (by rw [q2v, q2]; rfl) (by decide) ?_
      refine v_iload_n C 2 dX5_fits_149 rfl rfl ?_
      refine v_iconst (v := 2) C dX5_fits_150 (by decide) ?_
      refine b_icmp_ne C 158 dX5_fits_151 (by decide) (show ((-1) : Int32).toInt = (-1) by decide) (show (2 : Int32).toInt = 2 by decide) (fun c27 => ?_) (fun c27 => absurd c27 (by decide))
      refine v_iconst (v := 0) C dX5_fits_158 (by decide) ?_
      exact v_ret C dX5_fits_159 rfl rfl (Or.inl ⟨(by first | (exfalso; omega) | (unfold FTs; (repeat first | rw [if_pos (by omega)] | rw [if_neg (by omega)]))), rfl, rfl⟩)
    · refine v_tableIn (off := 155) C 179 dX5_fits_24 (by omega) (by omega) (by rw [q2v, q2]; rfl) (by decide) ?_
      refine v_aload_n C 0 dX5_fits_179 rfl rfl ?_
      refine v_geti (v := ip 5) C b dX5_fits_180 fX5_38 (by omega) hEb rfl rfl ?_
      refine v_iconst (v := 2) C dX5_fits_183 (by decide) ?_
      refine b_icmp_lt C 211 dX5_fits_184 (by decide) (rfl : Int32.toInt (ip 5) = _) (show (2 : Int32).toInt = 2 by decide) (fun c28 => ?_) (fun c28 => by exfalso; omega)
      refine v_iconst (v := 0) C dX5_fits_211 (by decide) ?_
      exact v_ret C dX5_fits_212 rfl rfl (Or.inl ⟨(by first | (exfalso; omega) | (unfold FTs; (repeat first | rw [if_pos (by omega)] | rw [if_neg (by omega)]))), rfl, rfl⟩)
    · refine v_tableIn (off := 155) C 179 dX5_fits_24 (by omega) (by omega) (by rw [q2v, q2]; rfl) (by decide) ?_
      refine v_aload_n C 0 dX5_fits_179 rfl rfl ?_
      refine v_geti (v := ip 5) C b dX5_fits_180 fX5_38 (by omega) hEb rfl rfl ?_
      refine v_iconst (v := 2) C dX5_fits_183 (by decide) ?_
      refine b_icmp_lt C 211 dX5_fits_184 (by decide) (rfl : Int32.toInt (ip 5) = _) (show (2 : Int32).toInt = 2 by decide) (fun c29 => ?_) (fun c29 => by exfalso; omega)
      refine v_iconst (v := 0) C dX5_fits_211 (by decide) ?_
      exact v_ret C dX5_fits_212 rfl rfl (Or.inl ⟨(by first | (exfalso; omega) | (unfold FTs; (repeat first | rw [if_pos (by omega)] | rw [if_neg (by omega)]))), rfl, rfl⟩)
    · refine v_tableIn (off := 136) C 160 dX5_fits_24 (by omega) (by omega) (by rw [q2v, q2]; rfl) (by decide) ?_
      refine v_iload_n C 2 dX5_fits_160 rfl rfl ?_
      refine v_iconst (v := (-1)) C dX5_fits_161 (by decide) ?_
      refine b_icmp_eq C 177 dX5_fits_162 (by decide) (show ((-1) : Int32).toInt = (-1) by decide) (show ((-1) : Int32).toInt = (-1) by decide) (fun c30 => ?_) (fun c30 => absurd c30 (by decide))
      refine v_iconst (v := 0) C dX5_fits_177 (by decide) ?_
      exact v_ret C dX5_fits_178 rfl rfl (Or.inl ⟨(by first | (exfalso; omega) | (unfold FTs; (repeat first | rw [if_pos (by omega)] | rw [if_neg (by omega)]))), rfl, rfl⟩)
    · refine v_tableOut C 179 dX5_fits_24 (by omega) (by decide) ?_
      refine v_aload_n C 0 dX5_fits_179 rfl rfl ?_
      refine v_geti (v := ip 5) C b dX5_fits_180 fX5_38 (by omega) hEb rfl rfl ?_
      refine v_iconst (v := 2) C dX5_fits_183 (by decide) ?_
      refine b_icmp_lt C 211 dX5_fits_184 (by decide) (rfl : Int32.toInt (ip 5) = _) (show (2 : Int32).toInt = 2 by decide) (fun c31 => ?_) (fun c31 => by exfalso; omega)
      refine v_iconst (v := 0) C dX5_fits_211 (by decide) ?_
      exact v_ret C dX5_fits_212 rfl rfl (Or.inl ⟨(by first | (exfalso; omega) | (unfold FTs; (repeat first | rw [if_pos (by omega)] | rw [if_neg (by omega)]))), rfl, rfl⟩)
  · refine v_aload_n C 0 dX5_fits_7 rfl rfl ?_
    refine v_getr C b dX5_fits_8 fX5_24 (by omega) hEb rfl rfl ?_
    refine v_aload_n C 0 dX5_fits_11 rfl rfl ?_
    refine v_geti (v := ip 5) C b dX5_fits_12 fX5_38 (by omega) hEb rfl rfl ?_
    refine v_iconst (v := 1) C dX5_fits_15 (by decide) ?_
    refine v_isub C dX5_fits_16 ?_
    refine v_top (fun x32 ex32 => ?_)
    have hx32 : x32.toInt = ((ip 5).toInt - 1) := by rw [ex32]; exact ti_sub (rfl : Int32.toInt (ip 5) = _) (show (1 : Int32).toInt = 1 by decide) (by omega) (by omega)
    refine v_ald (v := kd (((ip 5).toInt - 1)).toNat) C (b + 5) dX5_fits_17 (by omega) hEb5 (ti_in hx32 (by omega) (by omega)) (by rw [ti_cl hx32]) ?_
    refine v_goto C 22 dX5_fits_18 (by decide) ?_
    refine v_istore_n (lv' := [(0, .ref (ad b)), (1, .int op), (2, .int (kd (((ip 5).toInt - 1)).toNat))]) C [1, 2, 0] dX5_fits_22 rfl (by decide) rfl ?_
    refine v_iload_n C 1 dX5_fits_23 rfl rfl ?_
    have q33v : Int32.toInt op = op.toInt := (rfl : Int32.toInt op = _)
    rcases (show op.toInt = 0 ∨ op.toInt = 1 ∨ op.toInt = 2 ∨ op.toInt = 3 ∨ op.toInt = 4 ∨ op.toInt = 5 ∨ op.toInt = 6 ∨ op.toInt = 7 ∨ op.toInt = 8 ∨ op.toInt = 9 ∨ op.toInt = 10 ∨ (op.toInt < 0 ∨ 10 < op.toInt) by omega) with q33 | q33 | q33 | q33 | q33 | q33 | q33 | q33 | q33 | q33 | q33 | q33
    · refine v_tableIn (off := 60) C 84 dX5_fits_24 (by omega) (by omega) (by rw [q33v, q33]; rfl) (by decide) ?_
      refine v_aload_n C 0 dX5_fits_84 rfl rfl ?_
      refine v_iconst (v := 0) C dX5_fits_85 (by decide) ?_
      refine v_cVi C dX5_fits_86 lX5_51 mX5_push b (by omega) hEb (by decide) rfl (f_push l G n ad _ b hb hEb hEb5 hh1 hh2 0) ⟨by decide, by decide⟩ rfl (Nat.le_of_ble_eq_true rfl) ⟨Nat.zero_le _, Nat.zero_le _⟩ (fun r34 E35 hq36 => ?_)
      rcases hq36 with ⟨hc37, rfl, rfl⟩ | ⟨hc37, rfl, z37, hz37, hB37, hD37, hO37⟩
      · exact v_ret C dX5_fits_89 rfl rfl (Or.inl ⟨(by first | (exfalso; omega) | (unfold FTs; (repeat first | rw [if_pos (by omega)] | rw [if_neg (by omega)]))), rfl, rfl⟩)
      · exact v_ret C dX5_fits_89 rfl rfl (Or.inr ⟨_, _, _, (by first | (exfalso; omega) | (unfold FTs; (repeat first | rw [if_pos (by omega)] | rw [if_neg (by omega)]))), rfl, hB37, (show (va_up ip 5 z37 5).toInt = _ from hz37), (fun q hq => if_neg hq), hD37, fun j h0 h5 => (hO37 j h0 h5)⟩)
    · refine v_tableIn (off := 66) C 90 dX5_fits_24 (by omega) (by omega) (by rw [q33v, q33]; rfl) (by decide) ?_
      refine v_aload_n C 0 dX5_fits_90 rfl rfl ?_
      refine v_iconst (v := 0) C dX5_fits_91 (by decide) ?_
      refine v_iconst (v := 1) C dX5_fits_92 (by decide) ?_
      refine v_cVi C dX5_fits_93 lX5_54 mX5_become b (by omega) hEb (by decide) rfl (f_become l G n ad _ b hb hEb hEb5 hh1 hh2 0 1) ⟨by decide, by decide⟩ rfl (Nat.le_of_ble_eq_true rfl) ⟨Nat.zero_le _, Nat.zero_le _⟩ (fun r38 E39 hq40 => ?_)
      rw [show (0 : Int32).toInt = 0 by decide] at hq40
      rcases hq40 with ⟨hc41, rfl, rfl⟩ | ⟨hc41, rfl, hD41, hO41⟩
      · exact v_ret C dX5_fits_96 rfl rfl (Or.inl ⟨(by first | (exfalso; omega) | (unfold FTs; (repeat first | rw [if_pos (by omega)] | rw [if_neg (by omega)]))), rfl, rfl⟩)
      · have hB41 := (hO41 b (by omega)).trans hEb
        exact v_ret C dX5_fits_96 rfl rfl (Or.inr ⟨_, _, _, (by first | (exfalso; omega) | (unfold FTs; (repeat first | rw [if_pos (by omega)] | rw [if_neg (by omega)]))), rfl, hB41, rfl, (fun _ _ => rfl), hD41, fun j h0 h5 => (hO41 j h5)⟩)
    · refine v_tableIn (off := 73) C 97 dX5_fits_24 (by omega) (by omega) (by rw [q33v, q33]; rfl) (by decide) ?_
      refine v_aload_n C 0 dX5_fits_97 rfl rfl ?_
      refine v_iconst (v := 1) C dX5_fits_98 (by decide) ?_
      refine v_iconst (v := 2) C dX5_fits_99 (by decide) ?_
      refine v_cVi C dX5_fits_100 lX5_54 mX5_become b (by omega) hEb (by decide) rfl (f_become l G n ad _ b hb hEb hEb5 hh1 hh2 1 2) ⟨by decide, by decide⟩ rfl (Nat.le_of_ble_eq_true rfl) ⟨Nat.zero_le _, Nat.zero_le _⟩ (fun r42 E43 hq44 => ?_)
      rw [show (1 : Int32).toInt = 1 by decide] at hq44
      rcases hq44 with ⟨hc45, rfl, rfl⟩ | ⟨hc45, rfl, hD45, hO45⟩
      · exact v_ret C dX5_fits_103 rfl rfl (Or.inl ⟨(by first | (exfalso; omega) | (unfold FTs; (repeat first | rw [if_pos (by omega)] | rw [if_neg (by omega)]))), rfl, rfl⟩)
      · have hB45 := (hO45 b (by omega)).trans hEb
        exact v_ret C dX5_fits_103 rfl rfl (Or.inr ⟨_, _, _, (by first | (exfalso; omega) | (unfold FTs; (repeat first | rw [if_pos (by omega)] | rw [if_neg (by omega)]))), rfl, hB45, rfl, (fun _ _ => rfl), hD45, fun j h0 h5 => (hO45 j h5)⟩)
    · refine v_tableIn (off := 80) C 104 dX5_fits_24 (by omega) (by omega) (by rw [q33v, q33]; rfl) (by decide) ?_
      refine v_aload_n C 0 dX5_fits_104 rfl rfl ?_
      refine v_iconst (v := 2) C dX5_fits_105 (by decide) ?_
      refine v_iconst (v := 1) C dX5_fits_106 (by decide) ?_
      refine v_cVi C dX5_fits_107 lX5_54 mX5_become b (by omega) hEb (by decide) rfl (f_become l G n ad _ b hb hEb hEb5 hh1 hh2 2 1) ⟨by decide, by decide⟩ rfl (Nat.le_of_ble_eq_true rfl) ⟨Nat.zero_le _, Nat.zero_le _⟩ (fun r46 E47 hq48 => ?_)
      rw [show (2 : Int32).toInt = 2 by decide] at hq48
      rcases hq48 with ⟨hc49, rfl, rfl⟩ | ⟨hc49, rfl, hD49, hO49⟩
      · exact v_ret C dX5_fits_110 rfl rfl (Or.inl ⟨(by first | (exfalso; omega) | (unfold FTs; (repeat first | rw [if_pos (by omega)] | rw [if_neg (by omega)]))), rfl, rfl⟩)
      · have hB49 := (hO49 b (by omega)).trans hEb
        exact v_ret C dX5_fits_110 rfl rfl (Or.inr ⟨_, _, _, (by first | (exfalso; omega) | (unfold FTs; (repeat first | rw [if_pos (by omega)] | rw [if_neg (by omega)]))), rfl, hB49, rfl, (fun _ _ => rfl), hD49, fun j h0 h5 => (hO49 j h5)⟩)
    · refine v_tableIn (off := 87) C 111 dX5_fits_24 (by omega) (by omega) (by rw [q33v, q33]; rfl) (by decide) ?_
      refine v_aload_n C 0 dX5_fits_111 rfl rfl ?_
      refine v_iconst (v := 1) C dX5_fits_112 (by decide) ?_
      refine v_iconst (v := 0) C dX5_fits_113 (by decide) ?_
      refine v_cVi C dX5_fits_114 lX5_54 mX5_become b (by omega) hEb (by decide) rfl (f_become l G n ad _ b hb hEb hEb5 hh1 hh2 1 0) ⟨by decide, by decide⟩ rfl (Nat.le_of_ble_eq_true rfl) ⟨Nat.zero_le _, Nat.zero_le _⟩ (fun r50 E51 hq52 => ?_)
      rw [show (1 : Int32).toInt = 1 by decide] at hq52
      rcases hq52 with ⟨hc53, rfl, rfl⟩ | ⟨hc53, rfl, hD53, hO53⟩
      · exact v_ret C dX5_fits_117 rfl rfl (Or.inl ⟨(by first | (exfalso; omega) | (unfold FTs; (repeat first | rw [if_pos (by omega)] | rw [if_neg (by omega)]))), rfl, rfl⟩)
      · have hB53 := (hO53 b (by omega)).trans hEb
        exact v_ret C dX5_fits_117 rfl rfl (Or.inr ⟨_, _, _, (by first | (exfalso; omega) | (unfold FTs; (repeat first | rw [if_pos (by omega)] | rw [if_neg (by omega)]))), rfl, hB53, rfl, (fun _ _ => rfl), hD53, fun j h0 h5 => (hO53 j h5)⟩)
    · refine v_tableIn (off := 94) C 118 dX5_fits_24 (by omega) (by omega) (by rw [q33v, q33]; rfl) (by decide) ?_
      refine v_iload_n C 2 dX5_fits_118 rfl rfl ?_
      refine b_if_eq C 127 dX5_fits_119 (by decide) (rfl : Int32.toInt (kd (((ip 5).toInt - 1)).toNat) = _) (fun c54 => ?_) (fun c54 => ?_)
      · refine v_iconst (v := 1) C dX5_fits_127 (by decide) ?_
        refine v_goto C 132 dX5_fits_128 (by decide) ?_
        exact v_ret C dX5_fits_132 rfl rfl (Or.inr ⟨_, _, _, (by first | (exfalso; omega) | (unfold FTs; (repeat first | rw [if_pos (by omega)] | rw [if_neg (by omega)]))), rfl, hEb, rfl, (fun _ _ => rfl), hEb5, fun j h0 h5 => rfl⟩)
      · refine v_iload_n C 2 dX5_fits_122 rfl rfl ?_
        refine v_iconst (v := 1) C dX5_fits_123 (by decide) ?_
        refine b_icmp_ne C 131 dX5_fits_124 (by decide) (rfl : Int32.toInt (kd (((ip 5).toInt - 1)).toNat) = _) (show (1 : Int32).toInt = 1 by decide) (fun c55 => ?_) (fun c55 => ?_)
        · refine v_iconst (v := 0) C dX5_fits_131 (by decide) ?_
          exact v_ret C dX5_fits_132 rfl rfl (Or.inl ⟨(by first | (exfalso; omega) | (unfold FTs; (repeat first | rw [if_pos (by omega)] | rw [if_neg (by omega)]))), rfl, rfl⟩)
        · refine v_iconst (v := 1) C dX5_fits_127 (by decide) ?_
          refine v_goto C 132 dX5_fits_128 (by decide) ?_
          exact v_ret C dX5_fits_132 rfl rfl (Or.inr ⟨_, _, _, (by first | (exfalso; omega) | (unfold FTs; (repeat first | rw [if_pos (by omega)] | rw [if_neg (by omega)]))), rfl, hEb, rfl, (fun _ _ => rfl), hEb5, fun j h0 h5 => rfl⟩)
    · refine v_tableIn (off := 109) C 133 dX5_fits_24 (by omega) (by omega) (by rw [q33v, q33]; rfl) (by decide) ?_
      refine v_iload_n C 2 dX5_fits_133 rfl rfl ?_
      refine v_iconst (v := 2) C dX5_fits_134 (by decide) ?_
      refine b_icmp_eq C 143 dX5_fits_135 (by decide) (rfl : Int32.toInt (kd (((ip 5).toInt - 1)).toNat) = _) (show (2 : Int32).toInt = 2 by decide) (fun c56 => ?_) (fun c56 => ?_)
      · refine v_iconst (v := 1) C dX5_fits_143 (by decide) ?_
        refine v_goto C 148 dX5_fits_144 (by decide) ?_
        exact v_ret C dX5_fits_148 rfl rfl (Or.inr ⟨_, _, _, (by first | (exfalso; omega) | (unfold FTs; (repeat first | rw [if_pos (by omega)] | rw [if_neg (by omega)]))), rfl, hEb, rfl, (fun _ _ => rfl), hEb5, fun j h0 h5 => rfl⟩)
      · refine v_iload_n C 2 dX5_fits_138 rfl rfl ?_
        refine v_iconst (v := 1) C dX5_fits_139 (by decide) ?_
        refine b_icmp_ne C 147 dX5_fits_140 (by decide) (rfl : Int32.toInt (kd (((ip 5).toInt - 1)).toNat) = _) (show (1 : Int32).toInt = 1 by decide) (fun c57 => ?_) (fun c57 => ?_)
        · refine v_iconst (v := 0) C dX5_fits_147 (by decide) ?_
          exact v_ret C dX5_fits_148 rfl rfl (Or.inl ⟨(by first | (exfalso; omega) | (unfold FTs; (repeat first | rw [if_pos (by omega)] | rw [if_neg (by omega)]))), rfl, rfl⟩)
        · refine v_iconst (v := 1) C dX5_fits_143 (by decide) ?_
          refine v_goto C 148 dX5_fits_144 (by decide) ?_
          exact v_ret C dX5_fits_148 rfl rfl (Or.inr ⟨_, _, _, (by first | (exfalso; omega) | (unfold FTs; (repeat first | rw [if_pos (by omega)] | rw [if_neg (by omega)]))), rfl, hEb, rfl, (fun _ _ => rfl), hEb5, fun j h0 h5 => rfl⟩)
    · refine v_tableIn (off := 125) C 149 dX5_fits_24 (by omega) (by omega) (by rw [q33v, q33]; rfl) (by decide) ?_
      refine v_iload_n C 2 dX5_fits_149 rfl rfl ?_
      refine v_iconst (v := 2) C dX5_fits_150 (by decide) ?_
      refine b_icmp_ne C 158 dX5_fits_151 (by decide) (rfl : Int32.toInt (kd (((ip 5).toInt - 1)).toNat) = _) (show (2 : Int32).toInt = 2 by decide) (fun c58 => ?_) (fun c58 => ?_)
      · refine v_iconst (v := 0) C dX5_fits_158 (by decide) ?_
        exact v_ret C dX5_fits_159 rfl rfl (Or.inl ⟨(by first | (exfalso; omega) | (unfold FTs; (repeat first | rw [if_pos (by omega)] | rw [if_neg (by omega)]))), rfl, rfl⟩)
      · refine v_iconst (v := 1) C dX5_fits_154 (by decide) ?_
        refine v_goto C 159 dX5_fits_155 (by decide) ?_
        exact v_ret C dX5_fits_159 rfl rfl (Or.inr ⟨_, _, _, (by first | (exfalso; omega) | (unfold FTs; (repeat first | rw [if_pos (by omega)] | rw [if_neg (by omega)]))), rfl, hEb, rfl, (fun _ _ => rfl), hEb5, fun j h0 h5 => rfl⟩)
    · refine v_tableIn (off := 155) C 179 dX5_fits_24 (by omega) (by omega) (by rw [q33v, q33]; rfl) (by decide) ?_
      refine v_aload_n C 0 dX5_fits_179 rfl rfl ?_
      refine v_geti (v := ip 5) C b dX5_fits_180 fX5_38 (by omega) hEb rfl rfl ?_
      refine v_iconst (v := 2) C dX5_fits_183 (by decide) ?_
      refine b_icmp_lt C 211 dX5_fits_184 (by decide) (rfl : Int32.toInt (ip 5) = _) (show (2 : Int32).toInt = 2 by decide) (fun c59 => ?_) (fun c59 => ?_)
      · refine v_iconst (v := 0) C dX5_fits_211 (by decide) ?_
        exact v_ret C dX5_fits_212 rfl rfl (Or.inl ⟨(by first | (exfalso; omega) | (unfold FTs; (repeat first | rw [if_pos (by omega)] | rw [if_neg (by omega)]))), rfl, rfl⟩)
      · refine v_aload_n C 0 dX5_fits_187 rfl rfl ?_
        refine v_iload_n C 1 dX5_fits_188 rfl rfl ?_
        refine v_aload_n C 0 dX5_fits_189 rfl rfl ?_
        refine v_getr C b dX5_fits_190 fX5_24 (by omega) hEb rfl rfl ?_
        refine v_aload_n C 0 dX5_fits_193 rfl rfl ?_
        refine v_geti (v := ip 5) C b dX5_fits_194 fX5_38 (by omega) hEb rfl rfl ?_
        refine v_iconst (v := 2) C dX5_fits_197 (by decide) ?_
        refine v_isub C dX5_fits_198 ?_
        refine v_top (fun x60 ex60 => ?_)
        have hx60 : x60.toInt = ((ip 5).toInt - 2) := by rw [ex60]; exact ti_sub (rfl : Int32.toInt (ip 5) = _) (show (2 : Int32).toInt = 2 by decide) (by omega) (by omega)
        refine v_ald (v := kd (((ip 5).toInt - 2)).toNat) C (b + 5) dX5_fits_199 (by omega) hEb5 (ti_in hx60 (by omega) (by omega)) (by rw [ti_cl hx60]) ?_
        refine v_iload_n C 2 dX5_fits_200 rfl rfl ?_
        refine v_cVi C dX5_fits_201 lX5_58 mX5_pairFits b (by omega) hEb (by decide) rfl (f_pairFits l G n ad _ b hb hEb hEb5 hh1 hh2 op (kd (((ip 5).toInt - 2)).toNat) (kd (((ip 5).toInt - 1)).toNat) (by omega) (by omega) rfl rfl) ⟨by decide, by decide⟩ rfl (Nat.le_of_ble_eq_true rfl) ⟨Nat.zero_le _, Nat.zero_le _⟩ (fun r61 E62 hq63 => ?_)
        rcases hq63 with ⟨hc64, rfl, rfl⟩ | ⟨h164, K164, ip164, hc64, rfl, hB64, h564, hq64, hD64, hO64⟩
        · refine b_if_eq C 211 dX5_fits_204 (by decide) (show (0 : Int32).toInt = 0 by decide) (fun c65 => ?_) (fun c65 => absurd c65 (by decide))
          refine v_iconst (v := 0) C dX5_fits_211 (by decide) ?_
          exact v_ret C dX5_fits_212 rfl rfl (Or.inl ⟨hc64, rfl, rfl⟩)
        · refine b_if_eq C 211 dX5_fits_204 (by decide) (show (1 : Int32).toInt = 1 by decide) (fun c66 => absurd c66 (by decide)) (fun c66 => ?_)
          refine v_iconst (v := 1) C dX5_fits_207 (by decide) ?_
          refine v_goto C 212 dX5_fits_208 (by decide) ?_
          exact v_ret C dX5_fits_212 rfl rfl (Or.inr ⟨_, _, _, hc64, rfl, hB64, h564, hq64, hD64, hO64⟩)
    · refine v_tableIn (off := 155) C 179 dX5_fits_24 (by omega) (by omega) (by rw [q33v, q33]; rfl) (by decide) ?_
      refine v_aload_n C 0 dX5_fits_179 rfl rfl ?_
      refine v_geti (v := ip 5) C b dX5_fits_180 fX5_38 (by omega) hEb rfl rfl ?_
      refine v_iconst (v := 2) C dX5_fits_183 (by decide) ?_
      refine b_icmp_lt C 211 dX5_fits_184 (by decide) (rfl : Int32.toInt (ip 5) = _) (show (2 : Int32).toInt = 2 by decide) (fun c67 => ?_) (fun c67 => ?_)
      · refine v_iconst (v := 0) C dX5_fits_211 (by decide) ?_
        exact v_ret C dX5_fits_212 rfl rfl (Or.inl ⟨(by first | (exfalso; omega) | (unfold FTs; (repeat first | rw [if_pos (by omega)] | rw [if_neg (by omega)]))), rfl, rfl⟩)
      · refine v_aload_n C 0 dX5_fits_187 rfl rfl ?_
        refine v_iload_n C 1 dX5_fits_188 rfl rfl ?_
        refine v_aload_n C 0 dX5_fits_189 rfl rfl ?_
        refine v_getr C b dX5_fits_190 fX5_24 (by omega) hEb rfl rfl ?_
        refine v_aload_n C 0 dX5_fits_193 rfl rfl ?_
        refine v_geti (v := ip 5) C b dX5_fits_194 fX5_38 (by omega) hEb rfl rfl ?_
        refine v_iconst (v := 2) C dX5_fits_197 (by decide) ?_
        refine v_isub C dX5_fits_198 ?_
        refine v_top (fun x68 ex68 => ?_)
        have hx68 : x68.toInt = ((ip 5).toInt - 2) := by rw [ex68]; exact ti_sub (rfl : Int32.toInt (ip 5) = _) (show (2 : Int32).toInt = 2 by decide) (by omega) (by omega)
        refine v_ald (v := kd (((ip 5).toInt - 2)).toNat) C (b + 5) dX5_fits_199 (by omega) hEb5 (ti_in hx68 (by omega) (by omega)) (by rw [ti_cl hx68]) ?_
        refine v_iload_n C 2 dX5_fits_200 rfl rfl ?_
        refine v_cVi C dX5_fits_201 lX5_58 mX5_pairFits b (by omega) hEb (by decide) rfl (f_pairFits l G n ad _ b hb hEb hEb5 hh1 hh2 op (kd (((ip 5).toInt - 2)).toNat) (kd (((ip 5).toInt - 1)).toNat) (by omega) (by omega) rfl rfl) ⟨by decide, by decide⟩ rfl (Nat.le_of_ble_eq_true rfl) ⟨Nat.zero_le _, Nat.zero_le _⟩ (fun r69 E70 hq71 => ?_)
        rcases hq71 with ⟨hc72, rfl, rfl⟩ | ⟨h172, K172, ip172, hc72, rfl, hB72, h572, hq72, hD72, hO72⟩
        · refine b_if_eq C 211 dX5_fits_204 (by decide) (show (0 : Int32).toInt = 0 by decide) (fun c73 => ?_) (fun c73 => absurd c73 (by decide))
          refine v_iconst (v := 0) C dX5_fits_211 (by decide) ?_
          exact v_ret C dX5_fits_212 rfl rfl (Or.inl ⟨hc72, rfl, rfl⟩)
        · refine b_if_eq C 211 dX5_fits_204 (by decide) (show (1 : Int32).toInt = 1 by decide) (fun c74 => absurd c74 (by decide)) (fun c74 => ?_)
          refine v_iconst (v := 1) C dX5_fits_207 (by decide) ?_
          refine v_goto C 212 dX5_fits_208 (by decide) ?_
          exact v_ret C dX5_fits_212 rfl rfl (Or.inr ⟨_, _, _, hc72, rfl, hB72, h572, hq72, hD72, hO72⟩)
    · refine v_tableIn (off := 136) C 160 dX5_fits_24 (by omega) (by omega) (by rw [q33v, q33]; rfl) (by decide) ?_
      refine v_iload_n C 2 dX5_fits_160 rfl rfl ?_
      refine v_iconst (v := (-1)) C dX5_fits_161 (by decide) ?_
      refine b_icmp_eq C 177 dX5_fits_162 (by decide) (rfl : Int32.toInt (kd (((ip 5).toInt - 1)).toNat) = _) (show ((-1) : Int32).toInt = (-1) by decide) (fun c75 => by exfalso; have := hok.2 ((ip 5).toInt - 1).toNat (by omega); omega) (fun c75 => ?_)
      refine v_aload_n C 0 dX5_fits_165 rfl rfl ?_
      refine v_iload_n C 2 dX5_fits_166 rfl rfl ?_
      refine v_cVi C dX5_fits_167 lX5_51 mX5_push b (by omega) hEb (by decide) rfl (f_push l G n ad _ b hb hEb hEb5 hh1 hh2 (kd (((ip 5).toInt - 1)).toNat)) ⟨by decide, by decide⟩ rfl (Nat.le_of_ble_eq_true rfl) ⟨Nat.zero_le _, Nat.zero_le _⟩ (fun r76 E77 hq78 => ?_)
      rcases hq78 with ⟨hc79, rfl, rfl⟩ | ⟨hc79, rfl, z79, hz79, hB79, hD79, hO79⟩
      · refine b_if_eq C 177 dX5_fits_170 (by decide) (show (0 : Int32).toInt = 0 by decide) (fun c80 => ?_) (fun c80 => absurd c80 (by decide))
        refine v_iconst (v := 0) C dX5_fits_177 (by decide) ?_
        exact v_ret C dX5_fits_178 rfl rfl (Or.inl ⟨(by first | (exfalso; omega) | (unfold FTs; (repeat first | rw [if_pos (by omega)] | rw [if_neg (by omega)]))), rfl, rfl⟩)
      · refine b_if_eq C 177 dX5_fits_170 (by decide) (show (1 : Int32).toInt = 1 by decide) (fun c81 => absurd c81 (by decide)) (fun c81 => ?_)
        refine v_iconst (v := 1) C dX5_fits_173 (by decide) ?_
        refine v_goto C 178 dX5_fits_174 (by decide) ?_
        exact v_ret C dX5_fits_178 rfl rfl (Or.inr ⟨_, _, _, (by first | (exfalso; omega) | (unfold FTs; (repeat first | rw [if_pos (by omega)] | rw [if_neg (by omega)]))), rfl, hB79, (show (va_up ip 5 z79 5).toInt = _ from hz79), (fun q hq => if_neg hq), hD79, fun j h0 h5 => (hO79 j h0 h5)⟩)
    · refine v_tableOut C 179 dX5_fits_24 (by omega) (by decide) ?_
      refine v_aload_n C 0 dX5_fits_179 rfl rfl ?_
      refine v_geti (v := ip 5) C b dX5_fits_180 fX5_38 (by omega) hEb rfl rfl ?_
      refine v_iconst (v := 2) C dX5_fits_183 (by decide) ?_
      refine b_icmp_lt C 211 dX5_fits_184 (by decide) (rfl : Int32.toInt (ip 5) = _) (show (2 : Int32).toInt = 2 by decide) (fun c82 => ?_) (fun c82 => ?_)
      · refine v_iconst (v := 0) C dX5_fits_211 (by decide) ?_
        exact v_ret C dX5_fits_212 rfl rfl (Or.inl ⟨(by first | (exfalso; omega) | (unfold FTs; (repeat first | rw [if_pos (by omega)] | rw [if_neg (by omega)]))), rfl, rfl⟩)
      · refine v_aload_n C 0 dX5_fits_187 rfl rfl ?_
        refine v_iload_n C 1 dX5_fits_188 rfl rfl ?_
        refine v_aload_n C 0 dX5_fits_189 rfl rfl ?_
        refine v_getr C b dX5_fits_190 fX5_24 (by omega) hEb rfl rfl ?_
        refine v_aload_n C 0 dX5_fits_193 rfl rfl ?_
        refine v_geti (v := ip 5) C b dX5_fits_194 fX5_38 (by omega) hEb rfl rfl ?_
        refine v_iconst (v := 2) C dX5_fits_197 (by decide) ?_
        refine v_isub C dX5_fits_198 ?_
        refine v_top (fun x83 ex83 => ?_)
        have hx83 : x83.toInt = ((ip 5).toInt - 2) := by rw [ex83]; exact ti_sub (rfl : Int32.toInt (ip 5) = _) (show (2 : Int32).toInt = 2 by decide) (by omega) (by omega)
        refine v_ald (v := kd (((ip 5).toInt - 2)).toNat) C (b + 5) dX5_fits_199 (by omega) hEb5 (ti_in hx83 (by omega) (by omega)) (by rw [ti_cl hx83]) ?_
        refine v_iload_n C 2 dX5_fits_200 rfl rfl ?_
        refine v_cVi C dX5_fits_201 lX5_58 mX5_pairFits b (by omega) hEb (by decide) rfl (f_pairFits l G n ad _ b hb hEb hEb5 hh1 hh2 op (kd (((ip 5).toInt - 2)).toNat) (kd (((ip 5).toInt - 1)).toNat) (by omega) (by omega) rfl rfl) ⟨by decide, by decide⟩ rfl (Nat.le_of_ble_eq_true rfl) ⟨Nat.zero_le _, Nat.zero_le _⟩ (fun r84 E85 hq86 => ?_)
        rcases hq86 with ⟨hc87, rfl, rfl⟩ | ⟨h187, K187, ip187, hc87, rfl, hB87, h587, hq87, hD87, hO87⟩
        · refine b_if_eq C 211 dX5_fits_204 (by decide) (show (0 : Int32).toInt = 0 by decide) (fun c88 => ?_) (fun c88 => absurd c88 (by decide))
          refine v_iconst (v := 0) C dX5_fits_211 (by decide) ?_
          exact v_ret C dX5_fits_212 rfl rfl (Or.inl ⟨hc87, rfl, rfl⟩)
        · refine b_if_eq C 211 dX5_fits_204 (by decide) (show (1 : Int32).toInt = 1 by decide) (fun c89 => absurd c89 (by decide)) (fun c89 => ?_)
          refine v_iconst (v := 1) C dX5_fits_207 (by decide) ?_
          refine v_goto C 212 dX5_fits_208 (by decide) ?_
          exact v_ret C dX5_fits_212 rfl rfl (Or.inr ⟨_, _, _, hc87, rfl, hB87, h587, hq87, hD87, hO87⟩)

set_option maxRecDepth 20000 in
theorem lp_fitX {X : Mx} {l : Launch} {G : Gl} {A : Nat → Prop} {Q : State → Prop} {n : Nat} {ad : Nat → Nat} (C : Cx X l G A "OddHours$Program" cX5_fit 2 none (rmx 2 47 0 0)) (b : Nat) (hb : b + 6 ≤ n) (E0 : Nat → va_E) {ip0 po : Nat → Int32} (hs2 : (ip0 6).toInt ≤ 10) (hpo : ∀ j : Nat, (j : Int) < (ip0 6).toInt → 0 ≤ (po j).toInt ∧ (po j).toInt ≤ 11) (h1 : E0 (b + 1) = aI G 10 po)
    (k28 : ∀ (k : Nat) (E : Nat → va_E) (ip tp kd : Nat → Int32) (x1 : Int32) (h : Int) (Kc : Nat → Int32), (k : Int) < (ip0 6).toInt → x1.toInt = (k : Int) → E b = ob 5 (rP ad b) ip → ip 6 = ip0 6 → (ip 5).toInt = h → RSf po k = some (h, Kc) → simK h kd Kc → E (b + 4) = aI G 10 tp → (∀ j, j < k → TPp po j (tp j)) → E (b + 5) = aI G 8 kd → (∀ j, j ≠ b → j ≠ b + 4 → j ≠ b + 5 → E j = E0 j) → RSf po (k + 1) = none → V X G A 2 Q n ad 0 0 E 28 [(0, .ref (ad b)), (1, .int x1)] []) (k68 : ∀ (k : Nat) (E : Nat → va_E) (ip tp kd : Nat → Int32) (x1 : Int32) (h : Int) (Kc : Nat → Int32), (k : Int) = (ip0 6).toInt → E b = ob 5 (rP ad b) ip → ip 6 = ip0 6 → (ip 5).toInt = h → RSf po k = some (h, Kc) → simK h kd Kc → E (b + 4) = aI G 10 tp → (∀ j, j < k → TPp po j (tp j)) → E (b + 5) = aI G 8 kd → (∀ j, j ≠ b → j ≠ b + 4 → j ≠ b + 5 → E j = E0 j) → V X G A 2 Q n ad 0 0 E 68 [(0, .ref (ad b)), (1, .int x1)] []) :
    ∀ (t k : Nat) (E : Nat → va_E) (ip tp kd : Nat → Int32) (x1 : Int32) (h : Int) (Kc : Nat → Int32), (k : Int) + (t : Int) = (ip0 6).toInt → x1.toInt = (k : Int) → E b = ob 5 (rP ad b) ip → ip 6 = ip0 6 → (ip 5).toInt = h → RSf po k = some (h, Kc) → simK h kd Kc → E (b + 4) = aI G 10 tp → (∀ j, j < k → TPp po j (tp j)) → E (b + 5) = aI G 8 kd → (∀ j, j ≠ b → j ≠ b + 4 → j ≠ b + 5 → E j = E0 j) → V X G A 2 Q n ad 0 0 E 7 [(0, .ref (ad b)), (1, .int x1)] [] := by
  intro t
  induction t with
  | zero =>
    intro k E ip tp kd x1 h Kc hk hx1 hEb h6 h5h hRS hsim hEb4 htp hEb5 hfr
    have hEb1 := (hfr (b + 1) (by omega) (by omega) (by omega)).trans h1
    refine v_iload_n C 1 dX5_fit_7 rfl rfl ?_
    refine v_aload_n C 0 dX5_fit_8 rfl rfl ?_
    refine v_geti (v := ip 6) C b dX5_fit_9 fX5_27 (by omega) hEb rfl rfl ?_
    refine b_icmp_ge C 68 dX5_fit_12 (by decide) hx1 (show (ip 6).toInt = (ip0 6).toInt by rw [h6]) (fun c31 => ?_) (fun c31 => by exfalso; omega)
    exact k68 k E ip tp kd x1 h Kc (by omega) hEb h6 h5h hRS hsim hEb4 htp hEb5 hfr
  | succ t ih =>
    intro k E ip tp kd x1 h Kc hk hx1 hEb h6 h5h hRS hsim hEb4 htp hEb5 hfr
    have hEb1 := (hfr (b + 1) (by omega) (by omega) (by omega)).trans h1
    refine v_iload_n C 1 dX5_fit_7 rfl rfl ?_
    refine v_aload_n C 0 dX5_fit_8 rfl rfl ?_
    refine v_geti (v := ip 6) C b dX5_fit_9 fX5_27 (by omega) hEb rfl rfl ?_
    refine b_icmp_ge C 68 dX5_fit_12 (by decide) hx1 (show (ip 6).toInt = (ip0 6).toInt by rw [h6]) (fun c31 => by exfalso; omega) (fun c31 => ?_)
    refine v_aload_n C 0 dX5_fit_15 rfl rfl ?_
    refine v_aload_n C 0 dX5_fit_16 rfl rfl ?_
    refine v_getr C b dX5_fit_17 fX5_9 (by omega) hEb rfl rfl ?_
    refine v_iload_n C 1 dX5_fit_20 rfl rfl ?_
    refine v_ald (v := po k) C (b + 1) dX5_fit_21 (by omega) hEb1 (ti_in hx1 (by omega) (by omega)) (by rw [ti_cl hx1, show Int.toNat (k : Int) = k by omega]) ?_
    have hokc := RS_ok k _ hRS
    have hok : okK (ip 5).toInt kd := by rw [h5h]; exact ⟨hokc.1, fun j hj => by rw [hsim j hj]; exact hokc.2 j hj⟩
    have hb58 := hok.1
    refine v_cVi C dX5_fit_22 lX5_41 mX5_fits b (by omega) hEb (by decide) rfl (f_fits l G n ad _ b hb hEb hEb5 (by omega) (by omega) (po k) (hpo k (by omega)) hok) ⟨by decide, by decide⟩ rfl (Nat.le_of_ble_eq_true rfl) ⟨Nat.zero_le _, Nat.zero_le _⟩ (fun r32 E33 hq34 => ?_)
    rw [h5h] at hq34
    rcases FTs_sim (op := (po k).toInt) hsim with ⟨hs1, hs2⟩ | ⟨g1, K1, K2, hs1, hs2, hs3⟩
    · rcases hq34 with ⟨-, rfl, rfl⟩ | ⟨p1, p2, p3, hbad, -⟩
      rotate_left
      · rw [hs1] at hbad; cases hbad
      refine b_if_ne C 34 dX5_fit_25 (by decide) (show (0 : Int32).toInt = 0 by decide) (fun c35 => absurd c35 (by decide)) (fun c35 => ?_)
      exact k28 k E ip tp kd x1 h Kc (by omega) hx1 hEb h6 h5h hRS hsim hEb4 htp hEb5 hfr (by rw [RS_s hRS]; exact hs2)
    · rcases hq34 with ⟨hbad, -⟩ | ⟨p1, p2, ip1, hgood, rfl, hB1, h51, hq1, hD1, hO1⟩
      · rw [hs1] at hbad; cases hbad
      rw [hs1] at hgood
      injection hgood with hgood
      injection hgood with e1 e2
      subst e1 e2
      have hE33_b1 := (hO1 (b + 1) (by omega) (by omega)).trans hEb1
      have hE33_b4 := (hO1 (b + 4) (by omega) (by omega)).trans hEb4
      have hRS1 : RSf po (k + 1) = some (g1, K2) := by rw [RS_s hRS]; exact hs2
      have hok1 := (RS_ok (k + 1) _ hRS1).1
      dsimp only at hok1
      refine b_if_ne C 34 dX5_fit_25 (by decide) (show (1 : Int32).toInt = 1 by decide) (fun c36 => ?_) (fun c36 => absurd c36 (by decide))
      refine v_aload_n C 0 dX5_fit_34 rfl rfl ?_
      refine v_getr C b dX5_fit_35 fX5_21 (by omega) hB1 rfl rfl ?_
      refine v_iload_n C 1 dX5_fit_38 rfl rfl ?_
      refine v_aload_n C 0 dX5_fit_39 rfl rfl ?_
      refine v_geti (v := ip1 5) C b dX5_fit_40 fX5_38 (by omega) hB1 rfl rfl ?_
      refine b_if_le C 60 dX5_fit_43 (by decide) h51 (fun c37 => ?_) (fun c37 => ?_)
      · refine v_iconst (v := (-1)) C dX5_fit_60 (by decide) ?_
        refine v_ast C (b + 4) dX5_fit_61 (by omega) hE33_b4 (ti_in hx1 (by omega) (by omega)) (fun E38 hE38_b4 oE38 => ?_)
        rw [ti_cl hx1, show Int.toNat (k : Int) = k by omega] at hE38_b4
        have hE38_b := (oE38 b (by omega)).trans hB1
        have hE38_b5 := (oE38 (b + 5) (by omega)).trans hD1
        have hE38_b1 := (oE38 (b + 1) (by omega)).trans hE33_b1
        obtain ⟨x39, ex39⟩ : ∃ y : Int32, y = x1 + 1 := ⟨_, rfl⟩
        have hx39 : x39.toInt = ((k : Int) + 1) := by rw [ex39]; exact ti_add hx1 (show (1 : Int32).toInt = 1 by decide) (by omega) (by omega)
        refine v_iinc (v := x39) (lv' := [(0, .ref (ad b)), (1, .int x39)]) C 1 [1, 0] dX5_fit_62 rfl (ex39.symm) (by decide) rfl ?_
        refine v_goto C 7 dX5_fit_65 (by decide) ?_
        exact ih (k + 1) _ _ _ _ x39 g1 K2 (by omega) (by rw [hx39]; omega) hE38_b ((hq1 6 (by decide)).trans h6) h51 hRS1 hs3 hE38_b4 (fun j hj hh KK hK => by by_cases q : j = k; (subst q; exact (by rw [hRS1] at hK; injection hK with hK; injection hK with q1 q2; subst q1 q2; rw [upd_same, if_neg (by omega)])); (rw [upd_ne q]; exact htp j (by omega) hh KK hK)) hE38_b5 (fun j a b c => (((oE38 j b).trans (hO1 j a c))).trans (hfr j a b c))
      · refine v_aload_n C 0 dX5_fit_46 rfl rfl ?_
        refine v_getr C b dX5_fit_47 fX5_24 (by omega) hB1 rfl rfl ?_
        refine v_aload_n C 0 dX5_fit_50 rfl rfl ?_
        refine v_geti (v := ip1 5) C b dX5_fit_51 fX5_38 (by omega) hB1 rfl rfl ?_
        refine v_iconst (v := 1) C dX5_fit_54 (by decide) ?_
        refine v_isub C dX5_fit_55 ?_
        refine v_top (fun x40 ex40 => ?_)
        have hx40 : x40.toInt = (g1 - 1) := by rw [ex40]; exact ti_sub h51 (show (1 : Int32).toInt = 1 by decide) (by omega) (by omega)
        refine v_ald (v := K1 ((g1 - 1)).toNat) C (b + 5) dX5_fit_56 (by omega) hD1 (ti_in hx40 (by omega) (by omega)) (by rw [ti_cl hx40]) ?_
        refine v_goto C 61 dX5_fit_57 (by decide) ?_
        refine v_ast C (b + 4) dX5_fit_61 (by omega) hE33_b4 (ti_in hx1 (by omega) (by omega)) (fun E41 hE41_b4 oE41 => ?_)
        rw [ti_cl hx1, show Int.toNat (k : Int) = k by omega] at hE41_b4
        have hE41_b := (oE41 b (by omega)).trans hB1
        have hE41_b5 := (oE41 (b + 5) (by omega)).trans hD1
        have hE41_b1 := (oE41 (b + 1) (by omega)).trans hE33_b1
        obtain ⟨x42, ex42⟩ : ∃ y : Int32, y = x1 + 1 := ⟨_, rfl⟩
        have hx42 : x42.toInt = ((k : Int) + 1) := by rw [ex42]; exact ti_add hx1 (show (1 : Int32).toInt = 1 by decide) (by omega) (by omega)
        refine v_iinc (v := x42) (lv' := [(0, .ref (ad b)), (1, .int x42)]) C 1 [1, 0] dX5_fit_62 rfl (ex42.symm) (by decide) rfl ?_
        refine v_goto C 7 dX5_fit_65 (by decide) ?_
        exact ih (k + 1) _ _ _ _ x42 g1 K2 (by omega) (by rw [hx42]; omega) hE41_b ((hq1 6 (by decide)).trans h6) h51 hRS1 hs3 hE41_b4 (fun j hj hh KK hK => by by_cases q : j = k; (subst q; exact (by rw [hRS1] at hK; injection hK with hK; injection hK with q1 q2; subst q1 q2; rw [upd_same, if_pos (by omega)]; exact hs3 _ (by omega))); (rw [upd_ne q]; exact htp j (by omega) hh KK hK)) hE41_b5 (fun j a b c => (((oE41 j b).trans (hO1 j a c))).trans (hfr j a b c))

set_option maxRecDepth 20000 in
theorem f_fit (l : Launch) (G : Gl) (n : Nat) (ad : Nat → Nat) (E : Nat → va_E) (b : Nat) (hb : b + 6 ≤ n) {ip kd : Nat → Int32} (hEb : E b = ob 5 (rP ad b) ip) (hEb5 : E (b + 5) = aI G 8 kd) {po px py tp : Nat → Int32} (hEb1 : E (b + 1) = aI G 10 po) (hEb2 : E (b + 2) = aI G 10 px) (hEb3 : E (b + 3) = aI G 10 py) (hEb4 : E (b + 4) = aI G 10 tp) (hs1 : 0 ≤ (ip 6).toInt) (hs2 : (ip 6).toInt ≤ 10) (hpo : ∀ j : Nat, (j : Int) < (ip 6).toInt → 0 ≤ (po j).toInt ∧ (po j).toInt ≤ 11)  : CtV l G yX5_fit cX5_fit 2 2 47 n ad E [.ref (ad b)] (fun E' => ∃ ip1 tp1 kd1 : Nat → Int32, E' b = ob 5 (rP ad b) ip1 ∧ ip1 6 = ip 6 ∧ 0 ≤ (ip1 5).toInt ∧ (ip1 5).toInt ≤ 8 ∧ E' (b + 4) = aI G 10 tp1 ∧ E' (b + 5) = aI G 8 kd1 ∧ FITR po (ip 6).toInt.toNat ip1 tp1 ∧ ∀ j, j ≠ b → j ≠ b + 4 → j ≠ b + 5 → E' j = E j) := by
  refine CtV.of (by decide) (Nat.le_of_ble_eq_true rfl) (fun X A C => ?_)
  refine v_sub (lv' := [(0, .ref (ad b))]) [0] rfl ?_
  refine v_aload_n C 0 dX5_fit_0 rfl rfl ?_
  refine v_iconst (v := 0) C dX5_fit_1 (by decide) ?_
  refine v_puti C b dX5_fit_2 fX5_38 (by omega) hEb rfl rfl rfl rfl (fun E1 hE1_b oE1 => ?_)
  have hE1_b5 := (oE1 (b + 5) (by omega)).trans hEb5
  have hE1_b1 := (oE1 (b + 1) (by omega)).trans hEb1
  have hE1_b2 := (oE1 (b + 2) (by omega)).trans hEb2
  have hE1_b3 := (oE1 (b + 3) (by omega)).trans hEb3
  have hE1_b4 := (oE1 (b + 4) (by omega)).trans hEb4
  refine v_iconst (v := 0) C dX5_fit_5 (by decide) ?_
  refine v_istore_n (lv' := [(0, .ref (ad b)), (1, .int 0)]) C [1, 0] dX5_fit_6 rfl (by decide) rfl ?_
  obtain ⟨T, hT⟩ : ∃ T : Nat, (T : Int) = (ip 6).toInt := ⟨(ip 6).toInt.toNat, by omega⟩
  have hT2 : (ip 6).toInt.toNat = T := by omega
  refine lp_fitX C b hb E1 (ip0 := ip) hs2 hpo hE1_b1 (fun k9 E9 ip9 tp9 kd9 x9 h9 K9 hk9 hx9 hB9 h69 h59h hRS9 hsim9 h49 htp9 h59 hf9 hbad => ?_) (fun k9 E9 ip9 tp9 kd9 x9 h9 K9 hk9 hB9 h69 h59h hRS9 hsim9 h49 htp9 h59 hf9 => ?_) T 0 E1 _ tp kd 0 0 (fun _ => 0) (by omega) (show (0 : Int32).toInt = 0 by decide) hE1_b rfl (show (0 : Int32).toInt = 0 by decide) rfl (fun j hj => absurd hj (by omega)) hE1_b4 (fun j hj => absurd hj (Nat.not_lt_zero j)) hE1_b5 (fun j _ _ _ => rfl)
  · refine v_aload_n C 0 dX5_fit_28 rfl rfl ?_
    refine v_iload_n C 1 dX5_fit_29 rfl rfl ?_
    refine v_puti C b dX5_fit_30 fX5_45 (by omega) hB9 rfl rfl rfl rfl (fun E2 hE2_b oE2 => ?_)
    have hE2_b4 := (oE2 (b + 4) (by omega)).trans h49
    have hE2_b5 := (oE2 (b + 5) (by omega)).trans h59
    have hok9 := (RS_ok k9 _ hRS9).1
    dsimp only at hok9
    exact v_vret C dX5_fit_33 rfl ⟨_, tp9, kd9, hE2_b, h69, (show 0 ≤ (ip9 5).toInt by omega), (show (ip9 5).toInt ≤ 8 by omega), hE2_b4, hE2_b5, ⟨(show Int32.toInt x9 = _ by rw [hx9, hT2, MIS_bad hRS9 hbad (by omega)]), (fun KK hK => by rw [hT2, RS_n hbad T (by omega)] at hK; cases hK), (fun j hj hh KK hK => if hq : j < k9 then htp9 j hq hh KK hK else absurd ((RS_n hbad (j + 1) (by omega)).symm.trans hK) (by intro q; cases q))⟩, fun j a b c => ((oE2 j a)).trans ((hf9 j a b c).trans (oE1 j a))⟩
  · refine v_aload_n C 0 dX5_fit_68 rfl rfl ?_
    refine v_aload_n C 0 dX5_fit_69 rfl rfl ?_
    refine v_geti (v := ip9 5) C b dX5_fit_70 fX5_38 (by omega) hB9 rfl rfl ?_
    refine v_iconst (v := 1) C dX5_fit_73 (by decide) ?_
    refine b_icmp_ne C 81 dX5_fit_74 (by decide) h59h (show (1 : Int32).toInt = 1 by decide) (fun c3 => ?_) (fun c3 => ?_)
    · refine v_aload_n C 0 dX5_fit_81 rfl rfl ?_
      refine v_geti (v := ip9 6) C b dX5_fit_82 fX5_27 (by omega) hB9 rfl rfl ?_
      refine v_puti C b dX5_fit_85 fX5_45 (by omega) hB9 rfl rfl rfl rfl (fun E4 hE4_b oE4 => ?_)
      have hE4_b4 := (oE4 (b + 4) (by omega)).trans h49
      have hE4_b5 := (oE4 (b + 5) (by omega)).trans h59
      refine v_aload_n C 0 dX5_fit_88 rfl rfl ?_
      refine v_aload_n C 0 dX5_fit_89 rfl rfl ?_
      refine v_getr C b dX5_fit_90 fX5_24 (by omega) hE4_b rfl rfl ?_
      refine v_iconst (v := 0) C dX5_fit_93 (by decide) ?_
      refine v_ald (v := kd9 0) C (b + 5) dX5_fit_94 (by omega) hE4_b5 (ti_in (show (0 : Int32).toInt = 0 by decide) (by omega) (by omega)) (congrArg kd9 (by decide)) ?_
      refine v_puti C b dX5_fit_95 fX5_48 (by omega) hE4_b rfl rfl rfl rfl (fun E5 hE5_b oE5 => ?_)
      have hE5_b4 := (oE5 (b + 4) (by omega)).trans hE4_b4
      have hE5_b5 := (oE5 (b + 5) (by omega)).trans hE4_b5
      have hok9 := (RS_ok k9 _ hRS9).1
      dsimp only at hok9
      exact v_vret C dX5_fit_98 rfl ⟨_, tp9, kd9, hE5_b, h69, (show 0 ≤ (ip9 5).toInt by omega), (show (ip9 5).toInt ≤ 8 by omega), hE5_b4, hE5_b5, ⟨(show Int32.toInt (ip9 6) = _ by rw [(show (ip9 6).toInt = (ip 6).toInt by rw [h69]), hT2, ← (show k9 = T by omega), MIS_end hRS9, if_neg (by omega), (show ((k9 : Nat) : Int) = (ip 6).toInt by omega)]), (fun KK hK => by rw [hT2, ← (show k9 = T by omega), hRS9] at hK; injection hK with hK; injection hK with q1 q2; subst q2; exact hsim9 0 (by omega)), (fun j hj => htp9 j (by omega))⟩, fun j a b c => (((oE5 j a).trans (oE4 j a))).trans ((hf9 j a b c).trans (oE1 j a))⟩
    · refine v_iconst (v := (-1)) C dX5_fit_77 (by decide) ?_
      refine v_goto C 85 dX5_fit_78 (by decide) ?_
      refine v_puti C b dX5_fit_85 fX5_45 (by omega) hB9 rfl rfl rfl rfl (fun E6 hE6_b oE6 => ?_)
      have hE6_b4 := (oE6 (b + 4) (by omega)).trans h49
      have hE6_b5 := (oE6 (b + 5) (by omega)).trans h59
      refine v_aload_n C 0 dX5_fit_88 rfl rfl ?_
      refine v_aload_n C 0 dX5_fit_89 rfl rfl ?_
      refine v_getr C b dX5_fit_90 fX5_24 (by omega) hE6_b rfl rfl ?_
      refine v_iconst (v := 0) C dX5_fit_93 (by decide) ?_
      refine v_ald (v := kd9 0) C (b + 5) dX5_fit_94 (by omega) hE6_b5 (ti_in (show (0 : Int32).toInt = 0 by decide) (by omega) (by omega)) (congrArg kd9 (by decide)) ?_
      refine v_puti C b dX5_fit_95 fX5_48 (by omega) hE6_b rfl rfl rfl rfl (fun E7 hE7_b oE7 => ?_)
      have hE7_b4 := (oE7 (b + 4) (by omega)).trans hE6_b4
      have hE7_b5 := (oE7 (b + 5) (by omega)).trans hE6_b5
      have hok9 := (RS_ok k9 _ hRS9).1
      dsimp only at hok9
      exact v_vret C dX5_fit_98 rfl ⟨_, tp9, kd9, hE7_b, h69, (show 0 ≤ (ip9 5).toInt by omega), (show (ip9 5).toInt ≤ 8 by omega), hE7_b4, hE7_b5, ⟨(show Int32.toInt (-1) = _ by rw [(show ((-1) : Int32).toInt = (-1) by decide), hT2, ← (show k9 = T by omega), MIS_end hRS9, if_pos (by omega)]), (fun KK hK => by rw [hT2, ← (show k9 = T by omega), hRS9] at hK; injection hK with hK; injection hK with q1 q2; subst q2; exact hsim9 0 (by omega)), (fun j hj => htp9 j (by omega))⟩, fun j a b c => (((oE7 j a).trans (oE6 j a))).trans ((hf9 j a b c).trans (oE1 j a))⟩

def PgX (G : Gl) (ad : Nat → Nat) (b : Nat) (E : Nat → va_E) (sz : Int32) (fo fx fy : Nat → Int32) : Prop := ∃ ip po px py tp kd : Nat → Int32, E b = ob 5 (rP ad b) ip ∧ ip 6 = sz ∧ 0 ≤ (ip 5).toInt ∧ (ip 5).toInt ≤ 8 ∧ E (b + 1) = aI G 10 po ∧ E (b + 2) = aI G 10 px ∧ E (b + 3) = aI G 10 py ∧ E (b + 4) = aI G 10 tp ∧ E (b + 5) = aI G 8 kd ∧ (∀ j, j < sz.toInt.toNat → po j = fo j ∧ px j = fx j ∧ py j = fy j) ∧ (∀ j, j < sz.toInt.toNat → 0 ≤ (fo j).toInt ∧ (fo j).toInt ≤ 11) ∧ FITR fo sz.toInt.toNat ip tp
theorem PgX.w {G : Gl} {ad : Nat → Nat} {b : Nat} {E : Nat → va_E} {sz : Int32} {fo fx fy : Nat → Int32} (h : PgX G ad b E sz fo fx fy) : PgW G ad b E sz := by
  obtain ⟨ip, po, px, py, tp, kd, h0, h6, a, c, h1, h2, h3, h4, h5, -⟩ := h
  exact ⟨ip, po, px, py, tp, kd, h0, h6, a, c, h1, h2, h3, h4, h5⟩
theorem PgX.keep {G : Gl} {ad : Nat → Nat} {b : Nat} {E E1 : Nat → va_E} {sz : Int32} {fo fx fy : Nat → Int32} (h : PgX G ad b E sz fo fx fy) (hf : ∀ j, b ≤ j → j < b + 6 → E1 j = E j) : PgX G ad b E1 sz fo fx fy := by
  obtain ⟨ip, po, px, py, tp, kd, h0, h6, a, c, h1, h2, h3, h4, h5, r⟩ := h
  exact ⟨ip, po, px, py, tp, kd, (hf b (by omega) (by omega)).trans h0, h6, a, c, (hf _ (by omega) (by omega)).trans h1, (hf _ (by omega) (by omega)).trans h2, (hf _ (by omega) (by omega)).trans h3, (hf _ (by omega) (by omega)).trans h4, (hf _ (by omega) (by omega)).trans h5, r⟩
theorem PgX.congr {G : Gl} {ad : Nat → Nat} {b : Nat} {E : Nat → va_E} {sz : Int32} {fo fx fy go gx gy : Nat → Int32} (h : PgX G ad b E sz fo fx fy) (hf : ∀ j, j < sz.toInt.toNat → fo j = go j ∧ fx j = gx j ∧ fy j = gy j) : PgX G ad b E sz go gx gy := by
  obtain ⟨ip, po, px, py, tp, kd, h0, h6, a, c, h1, h2, h3, h4, h5, r1, r2, r3⟩ := h
  refine ⟨ip, po, px, py, tp, kd, h0, h6, a, c, h1, h2, h3, h4, h5, fun j hj => ?_, fun j hj => ?_, r3.congr (fun j hj => (hf j hj).1)⟩
  · have q := r1 j hj
    have p := hf j hj
    exact ⟨q.1.trans p.1, q.2.1.trans p.2.1, q.2.2.trans p.2.2⟩
  · rw [← (hf j hj).1]; exact r2 j hj
set_option maxRecDepth 20000 in
theorem f_empty (l : Launch) (G : Gl) (n : Nat) (ad : Nat → Nat) (E : Nat → va_E) (b : Nat) (hb : b + 6 ≤ n) {sz : Int32} {fo fx fy : Nat → Int32} (hW : PgX G ad b E sz fo fx fy) (hs1 : 0 ≤ sz.toInt) (hs2 : sz.toInt ≤ 10)  : CtV l G yX5_empty cX5_empty 1 3 68 n ad E [.ref (ad b)] (fun E' => PgX G ad b E' 0 fo fx fy ∧ Fr6 b E E') := by
  refine CtV.of (by decide) (Nat.le_of_ble_eq_true rfl) (fun X A C => ?_)
  obtain ⟨ip, po, px, py, tp, kd, hEb, hsz, hh1, hh2, hEb1, hEb2, hEb3, hEb4, hEb5, hre, hro, hrf⟩ := id hW
  refine v_sub (lv' := [(0, .ref (ad b))]) [0] rfl ?_
  refine v_aload_n C 0 dX5_empty_0 rfl rfl ?_
  refine v_iconst (v := 0) C dX5_empty_1 (by decide) ?_
  refine v_puti C b dX5_empty_2 fX5_27 (by omega) hEb rfl rfl rfl rfl (fun E1 hE1_b oE1 => ?_)
  have hE1_b5 := (oE1 (b + 5) (by omega)).trans hEb5
  have hE1_b1 := (oE1 (b + 1) (by omega)).trans hEb1
  have hE1_b2 := (oE1 (b + 2) (by omega)).trans hEb2
  have hE1_b3 := (oE1 (b + 3) (by omega)).trans hEb3
  have hE1_b4 := (oE1 (b + 4) (by omega)).trans hEb4
  refine v_aload_n C 0 dX5_empty_5 rfl rfl ?_
  refine v_cVv C dX5_empty_6 lX5_31 mX5_fit b (by omega) hE1_b (by decide) rfl (f_fit l G n ad _ b hb hE1_b hE1_b5 hE1_b1 hE1_b2 hE1_b3 hE1_b4 (show 0 ≤ Int32.toInt 0 by decide) (show Int32.toInt 0 ≤ 10 by decide) (fun j hj => absurd (show (j : Int) < 0 from hj) (by omega))) ⟨by decide, by decide⟩ rfl (Nat.le_of_ble_eq_true rfl) ⟨Nat.zero_le _, Nat.zero_le _⟩ (fun E2 hq3 => ?_)
  obtain ⟨ip4, tp4, kd4, hB4, h64, hl4, hu4, h44, h54, hF4, hO4⟩ := hq3
  have hE2_b1 := (hO4 (b + 1) (by omega) (by omega) (by omega)).trans hE1_b1
  have hE2_b2 := (hO4 (b + 2) (by omega) (by omega) (by omega)).trans hE1_b2
  have hE2_b3 := (hO4 (b + 3) (by omega) (by omega) (by omega)).trans hE1_b3
  exact v_vret C dX5_empty_9 rfl ⟨⟨_, _, _, _, _, _, hB4, h64, hl4, hu4, hE2_b1, hE2_b2, hE2_b3, h44, h54, (fun j hj => absurd (show j < 0 from hj) (by omega)), (fun j hj => absurd (show j < 0 from hj) (by omega)), (FITR.congr (fun j hj => absurd (show j < 0 from hj) (by omega)) hF4)⟩, (fun j hj => ((hO4 j (by omega) (by omega) (by omega)).trans (oE1 j (by omega))))⟩

theorem upd_op {ip po px py fo fx fy : Nat → Int32} {sz op : Int32} {i : Nat} (hsz : ip 6 = sz) (hre : ∀ j, j < sz.toInt.toNat → j ≠ i → po j = fo j ∧ px j = fx j ∧ py j = fy j) (hro : ∀ j, j < sz.toInt.toNat → j ≠ i → 0 ≤ (fo j).toInt ∧ (fo j).toInt ≤ 11) (hop : 0 ≤ op.toInt ∧ op.toInt ≤ 11) : ∀ j : Nat, (j : Int) < (ip 6).toInt → 0 ≤ (upd po i op j).toInt ∧ (upd po i op j).toInt ≤ 11 := by
  intro j hj
  rw [hsz] at hj
  by_cases q : j = i
  · rw [q, upd_same]; exact hop
  · rw [upd_ne q, (hre j (by omega) q).1]; exact hro j (by omega) q
theorem upd_re {po px py fo fx fy : Nat → Int32} {m : Nat} {op x y : Int32} {i : Nat} (hre : ∀ j, j < m → j ≠ i → po j = fo j ∧ px j = fx j ∧ py j = fy j) : ∀ j, j < m → upd po i op j = upd fo i op j ∧ upd px i x j = upd fx i x j ∧ upd py i y j = upd fy i y j := by
  intro j hj
  by_cases q : j = i
  · rw [q, upd_same, upd_same, upd_same, upd_same, upd_same, upd_same]; exact ⟨rfl, rfl, rfl⟩
  · rw [upd_ne q, upd_ne q, upd_ne q, upd_ne q, upd_ne q, upd_ne q]; exact hre j hj q
theorem upd_ro {fo : Nat → Int32} {m : Nat} {op : Int32} {i : Nat} (hro : ∀ j, j < m → j ≠ i → 0 ≤ (fo j).toInt ∧ (fo j).toInt ≤ 11) (hop : 0 ≤ op.toInt ∧ op.toInt ≤ 11) : ∀ j, j < m → 0 ≤ (upd fo i op j).toInt ∧ (upd fo i op j).toInt ≤ 11 := by
  intro j hj
  by_cases q : j = i
  · rw [q, upd_same]; exact hop
  · rw [upd_ne q]; exact hro j hj q
theorem upd_fit {ip ip1 tp1 po px py fo fx fy : Nat → Int32} {sz op : Int32} {i : Nat} (hsz : ip 6 = sz) (hre : ∀ j, j < sz.toInt.toNat → j ≠ i → po j = fo j ∧ px j = fx j ∧ py j = fy j) (h : FITR (upd po i op) (ip 6).toInt.toNat ip1 tp1) : FITR (upd fo i op) sz.toInt.toNat ip1 tp1 := by
  rw [hsz] at h
  refine FITR.congr (fun j hj => ?_) h
  by_cases q : j = i
  · rw [q, upd_same, upd_same]
  · rw [upd_ne q, upd_ne q]; exact (hre j hj q).1
set_option maxRecDepth 20000 in
theorem f_replace (l : Launch) (G : Gl) (n : Nat) (ad : Nat → Nat) (E : Nat → va_E) (b : Nat) (hb : b + 6 ≤ n) {sz i : Int32} {fo fx fy ip po px py tp kd : Nat → Int32} (hEb : E b = ob 5 (rP ad b) ip) (hsz : ip 6 = sz) (hEb1 : E (b + 1) = aI G 10 po) (hEb2 : E (b + 2) = aI G 10 px) (hEb3 : E (b + 3) = aI G 10 py) (hEb4 : E (b + 4) = aI G 10 tp) (hEb5 : E (b + 5) = aI G 8 kd) (hre : ∀ j, j < sz.toInt.toNat → j ≠ (i.toInt).toNat → po j = fo j ∧ px j = fx j ∧ py j = fy j) (hro : ∀ j, j < sz.toInt.toNat → j ≠ (i.toInt).toNat → 0 ≤ (fo j).toInt ∧ (fo j).toInt ≤ 11) (hs2 : sz.toInt ≤ 10) (hi : 0 ≤ i.toInt ∧ i.toInt < sz.toInt) (op x y : Int32) (hop : 0 ≤ op.toInt ∧ op.toInt ≤ 11)  : CtV l G yX5_replace cX5_replace 5 3 68 n ad E [.ref (ad b), .int i, .int op, .int x, .int y] (fun E' => PgX G ad b E' sz (upd fo (i.toInt).toNat op) (upd fx (i.toInt).toNat x) (upd fy (i.toInt).toNat y) ∧ Fr6 b E E') := by
  refine CtV.of (by decide) (Nat.le_of_ble_eq_true rfl) (fun X A C => ?_)
  refine v_sub (lv' := [(0, .ref (ad b)), (1, .int i), (2, .int op), (3, .int x), (4, .int y)]) [0, 1, 2, 3, 4] rfl ?_
  refine v_iload_n C 1 dX5_replace_0 rfl rfl ?_
  refine b_if_lt C 38 dX5_replace_1 (by decide) (rfl : Int32.toInt i = _) (fun c1 => by exfalso; omega) (fun c1 => ?_)
  refine v_iload_n C 1 dX5_replace_4 rfl rfl ?_
  refine v_aload_n C 0 dX5_replace_5 rfl rfl ?_
  refine v_geti (v := ip 6) C b dX5_replace_6 fX5_27 (by omega) hEb rfl rfl ?_
  refine b_icmp_ge C 38 dX5_replace_9 (by decide) (rfl : Int32.toInt i = _) (show (ip 6).toInt = sz.toInt by rw [hsz]) (fun c2 => by exfalso; omega) (fun c2 => ?_)
  refine v_aload_n C 0 dX5_replace_12 rfl rfl ?_
  refine v_getr C b dX5_replace_13 fX5_9 (by omega) hEb rfl rfl ?_
  refine v_iload_n C 1 dX5_replace_16 rfl rfl ?_
  refine v_iload_n C 2 dX5_replace_17 rfl rfl ?_
  refine v_ast C (b + 1) dX5_replace_18 (by omega) hEb1 (ti_in (rfl : Int32.toInt i = _) (by omega) (by omega)) (fun E3 hE3_b1 oE3 => ?_)
  rw [ti_cl (rfl : Int32.toInt i = _)] at hE3_b1
  have hE3_b := (oE3 b (by omega)).trans hEb
  have hE3_b5 := (oE3 (b + 5) (by omega)).trans hEb5
  have hE3_b2 := (oE3 (b + 2) (by omega)).trans hEb2
  have hE3_b3 := (oE3 (b + 3) (by omega)).trans hEb3
  have hE3_b4 := (oE3 (b + 4) (by omega)).trans hEb4
  refine v_aload_n C 0 dX5_replace_19 rfl rfl ?_
  refine v_getr C b dX5_replace_20 fX5_15 (by omega) hE3_b rfl rfl ?_
  refine v_iload_n C 1 dX5_replace_23 rfl rfl ?_
  refine v_iload_n C 3 dX5_replace_24 rfl rfl ?_
  refine v_ast C (b + 2) dX5_replace_25 (by omega) hE3_b2 (ti_in (rfl : Int32.toInt i = _) (by omega) (by omega)) (fun E4 hE4_b2 oE4 => ?_)
  rw [ti_cl (rfl : Int32.toInt i = _)] at hE4_b2
  have hE4_b := (oE4 b (by omega)).trans hE3_b
  have hE4_b5 := (oE4 (b + 5) (by omega)).trans hE3_b5
  have hE4_b1 := (oE4 (b + 1) (by omega)).trans hE3_b1
  have hE4_b3 := (oE4 (b + 3) (by omega)).trans hE3_b3
  have hE4_b4 := (oE4 (b + 4) (by omega)).trans hE3_b4
  refine v_aload_n C 0 dX5_replace_26 rfl rfl ?_
  refine v_getr C b dX5_replace_27 fX5_18 (by omega) hE4_b rfl rfl ?_
  refine v_iload_n C 1 dX5_replace_30 rfl rfl ?_
  refine v_iload C 4 dX5_replace_31 rfl ?_
  refine v_ast C (b + 3) dX5_replace_33 (by omega) hE4_b3 (ti_in (rfl : Int32.toInt i = _) (by omega) (by omega)) (fun E5 hE5_b3 oE5 => ?_)
  rw [ti_cl (rfl : Int32.toInt i = _)] at hE5_b3
  have hE5_b := (oE5 b (by omega)).trans hE4_b
  have hE5_b5 := (oE5 (b + 5) (by omega)).trans hE4_b5
  have hE5_b1 := (oE5 (b + 1) (by omega)).trans hE4_b1
  have hE5_b2 := (oE5 (b + 2) (by omega)).trans hE4_b2
  have hE5_b4 := (oE5 (b + 4) (by omega)).trans hE4_b4
  refine v_aload_n C 0 dX5_replace_34 rfl rfl ?_
  refine v_cVv C dX5_replace_35 lX5_31 mX5_fit b (by omega) hE5_b (by decide) rfl (f_fit l G n ad _ b hb hE5_b hE5_b5 hE5_b1 hE5_b2 hE5_b3 hE5_b4 (show 0 ≤ Int32.toInt (ip 6) by rw [hsz]; omega) (show Int32.toInt (ip 6) ≤ 10 by rw [hsz]; omega) (upd_op hsz hre hro hop)) ⟨by decide, by decide⟩ rfl (Nat.le_of_ble_eq_true rfl) ⟨Nat.zero_le _, Nat.zero_le _⟩ (fun E6 hq7 => ?_)
  obtain ⟨ip8, tp8, kd8, hB8, h68, hl8, hu8, h48, h58, hF8, hO8⟩ := hq7
  have hE6_b1 := (hO8 (b + 1) (by omega) (by omega) (by omega)).trans hE5_b1
  have hE6_b2 := (hO8 (b + 2) (by omega) (by omega) (by omega)).trans hE5_b2
  have hE6_b3 := (hO8 (b + 3) (by omega) (by omega) (by omega)).trans hE5_b3
  exact v_vret C dX5_replace_38 rfl ⟨⟨_, _, _, _, _, _, hB8, (h68.trans hsz), hl8, hu8, hE6_b1, hE6_b2, hE6_b3, h48, h58, (upd_re hre), (upd_ro hro hop), (upd_fit hsz hre hF8)⟩, (fun j hj => ((hO8 j (by omega) (by omega) (by omega)).trans ((oE5 j (by omega)).trans ((oE4 j (by omega)).trans (oE3 j (by omega))))))⟩

set_option maxRecDepth 20000 in
theorem f_append (l : Launch) (G : Gl) (n : Nat) (ad : Nat → Nat) (E : Nat → va_E) (b : Nat) (hb : b + 6 ≤ n) {sz : Int32} {fo fx fy : Nat → Int32} (hW : PgX G ad b E sz fo fx fy) (hs1 : 0 ≤ sz.toInt) (hs2 : sz.toInt ≤ 10) (op x y : Int32) (hop : 0 ≤ op.toInt ∧ op.toInt ≤ 11)  : CtV l G yX5_append cX5_append 4 4 92 n ad E [.ref (ad b), .int op, .int x, .int y] (fun E' => (10 ≤ sz.toInt ∧ E = E') ∨ (sz.toInt < 10 ∧ PgX G ad b E' (sz + 1) (upd fo sz.toInt.toNat op) (upd fx sz.toInt.toNat x) (upd fy sz.toInt.toNat y) ∧ Fr6 b E E')) := by
  refine CtV.of (by decide) (Nat.le_of_ble_eq_true rfl) (fun X A C => ?_)
  obtain ⟨ip, po, px, py, tp, kd, hEb, hsz, hh1, hh2, hEb1, hEb2, hEb3, hEb4, hEb5, hre, hro, hrf⟩ := id hW
  refine v_sub (lv' := [(0, .ref (ad b)), (1, .int op), (2, .int x), (3, .int y)]) [0, 1, 2, 3] rfl ?_
  refine v_aload_n C 0 dX5_append_0 rfl rfl ?_
  refine v_geti (v := ip 6) C b dX5_append_1 fX5_27 (by omega) hEb rfl rfl ?_
  refine v_bipush (v := 10) C dX5_append_4 (by decide) ?_
  refine b_icmp_ge C 32 dX5_append_6 (by decide) (show (ip 6).toInt = sz.toInt by rw [hsz]) (show (10 : Int32).toInt = 10 by decide) (fun c1 => ?_) (fun c1 => ?_)
  · exact v_vret C dX5_append_32 rfl (Or.inl ⟨by omega, rfl⟩)
  · refine v_aload_n C 0 dX5_append_9 rfl rfl ?_
    refine v_dup C dX5_append_10 rfl ?_
    refine v_geti (v := ip 6) C b dX5_append_11 fX5_27 (by omega) hEb rfl rfl ?_
    refine v_iconst (v := 1) C dX5_append_14 (by decide) ?_
    refine v_iadd C dX5_append_15 ?_
    refine v_top (fun x2 ex2 => ?_)
    have hx2 : x2.toInt = (sz.toInt + 1) := by rw [ex2]; exact ti_add (show (ip 6).toInt = sz.toInt by rw [hsz]) (show (1 : Int32).toInt = 1 by decide) (by omega) (by omega)
    refine v_puti C b dX5_append_16 fX5_27 (by omega) hEb rfl rfl rfl rfl (fun E3 hE3_b oE3 => ?_)
    have hE3_b5 := (oE3 (b + 5) (by omega)).trans hEb5
    have hE3_b1 := (oE3 (b + 1) (by omega)).trans hEb1
    have hE3_b2 := (oE3 (b + 2) (by omega)).trans hEb2
    have hE3_b3 := (oE3 (b + 3) (by omega)).trans hEb3
    have hE3_b4 := (oE3 (b + 4) (by omega)).trans hEb4
    refine v_aload_n C 0 dX5_append_19 rfl rfl ?_
    refine v_aload_n C 0 dX5_append_20 rfl rfl ?_
    refine v_geti (v := x2) C b dX5_append_21 fX5_27 (by omega) hE3_b rfl rfl ?_
    refine v_iconst (v := 1) C dX5_append_24 (by decide) ?_
    refine v_isub C dX5_append_25 ?_
    refine v_top (fun x4 ex4 => ?_)
    have hx4 : x4.toInt = ((sz.toInt + 1) - 1) := by rw [ex4]; exact ti_sub hx2 (show (1 : Int32).toInt = 1 by decide) (by omega) (by omega)
    refine v_iload_n C 1 dX5_append_26 rfl rfl ?_
    refine v_iload_n C 2 dX5_append_27 rfl rfl ?_
    refine v_iload_n C 3 dX5_append_28 rfl rfl ?_
    have hz2 : x2.toInt = sz.toInt + 1 := hx2
    have hz3 : x2 = sz + 1 := ti_ext (by rw [hz2, ti_add (rfl : sz.toInt = _) (show (1 : Int32).toInt = 1 by decide) (by omega) (by omega)])
    have hv : x4.toInt = sz.toInt := by rw [hx4]; omega
    refine v_cVv C dX5_append_29 lX5_34 mX5_replace b (by omega) hE3_b (by decide) rfl (f_replace l G n ad _ b hb (sz := x2) (i := x4) (fo := fo) (fx := fx) (fy := fy) hE3_b rfl hE3_b1 hE3_b2 hE3_b3 hE3_b4 hE3_b5 (fun j hj hne => hre j (by omega)) (fun j hj hne => hro j (by omega)) (by omega) (by omega) op x y hop) ⟨by decide, by decide⟩ rfl (Nat.le_of_ble_eq_true rfl) ⟨Nat.zero_le _, Nat.zero_le _⟩ (fun E5 hq6 => ?_)
    rw [show (x4.toInt).toNat = (sz.toInt).toNat by omega, hz3] at hq6
    exact v_vret C dX5_append_32 rfl (Or.inr ⟨by omega, hq6.1, fun j hj => (hq6.2 j hj).trans (oE3 j (by omega))⟩)

