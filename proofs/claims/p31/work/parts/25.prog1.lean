set_option maxRecDepth 20000 in
theorem c_push (l : Launch) (G : Gl) (n : Nat) (ad : Nat → Nat) (E : Nat → va_E) (b : Nat) (hb : b + 6 ≤ n) {ip kd : Nat → Int32} (hEb : E b = ob 5 (rP ad b) ip) (hEb5 : E (b + 5) = aI G 8 kd) (hh1 : 0 ≤ (ip 5).toInt) (hh2 : (ip 5).toInt ≤ 8) (x : Int32)  : CtI l G yX5_push cX5_push 2 .boolean 0 0 n ad E [.ref (ad b), .int x] (fun r E' => (r = 1 ∨ r = 0) ∧ FR G ad b E E' ip) := by
  refine CtI.of (by decide) (Nat.le_of_ble_eq_true rfl) (fun X A C => ?_)
  refine v_sub (lv' := [(0, .ref (ad b)), (1, .int x)]) [0, 1] rfl ?_
  refine v_aload_n C 0 dX5_push_0 rfl rfl ?_
  refine v_geti (v := ip 5) C b dX5_push_1 fX5_38 (by omega) hEb rfl rfl ?_
  refine v_bipush (v := 8) C dX5_push_4 (by decide) ?_
  refine b_icmp_lt C 11 dX5_push_6 (by decide) (rfl : Int32.toInt (ip 5) = _) (show (8 : Int32).toInt = 8 by decide) (fun c1 => ?_) (fun c1 => ?_)
  · refine v_aload_n C 0 dX5_push_11 rfl rfl ?_
    refine v_getr C b dX5_push_12 fX5_24 (by omega) hEb rfl rfl ?_
    refine v_aload_n C 0 dX5_push_15 rfl rfl ?_
    refine v_geti (v := ip 5) C b dX5_push_16 fX5_38 (by omega) hEb rfl rfl ?_
    refine v_iload_n C 1 dX5_push_19 rfl rfl ?_
    refine v_ast C (b + 5) dX5_push_20 (by omega) hEb5 (ti_in (rfl : Int32.toInt (ip 5) = _) (by omega) (by omega)) (fun E2 hE2_b5 oE2 => ?_)
    rw [ti_cl (rfl : Int32.toInt (ip 5) = _)] at hE2_b5
    have hE2_b := (oE2 b (by omega)).trans hEb
    refine v_aload_n C 0 dX5_push_21 rfl rfl ?_
    refine v_dup C dX5_push_22 rfl ?_
    refine v_geti (v := ip 5) C b dX5_push_23 fX5_38 (by omega) hE2_b rfl rfl ?_
    refine v_iconst (v := 1) C dX5_push_26 (by decide) ?_
    refine v_iadd C dX5_push_27 ?_
    refine v_top (fun x3 ex3 => ?_)
    have hx3 : x3.toInt = ((ip 5).toInt + 1) := by rw [ex3]; exact ti_add (rfl : Int32.toInt (ip 5) = _) (show (1 : Int32).toInt = 1 by decide) (by omega) (by omega)
    refine v_puti C b dX5_push_28 fX5_38 (by omega) hE2_b rfl rfl rfl rfl (fun E4 hE4_b oE4 => ?_)
    have hE4_b5 := (oE4 (b + 5) (by omega)).trans hE2_b5
    refine v_iconst (v := 1) C dX5_push_31 (by decide) ?_
    exact v_ret C dX5_push_32 rfl rfl ⟨Or.inl rfl, ⟨_, _, hE4_b, (fun k hk => (if_neg hk : va_up _ 5 _ k = _).trans ((fun _ _ => rfl) k hk)), (show 0 ≤ Int32.toInt x3 by omega), (show Int32.toInt x3 ≤ 8 by omega), hE4_b5, fun j h0 h5 => ((oE4 j h0).trans (oE2 j h5))⟩⟩
  · refine v_iconst (v := 0) C dX5_push_9 (by decide) ?_
    exact v_ret C dX5_push_10 rfl rfl ⟨Or.inr rfl, ⟨_, _, hEb, (fun _ _ => rfl), (show 0 ≤ Int32.toInt (ip 5) by omega), (show Int32.toInt (ip 5) ≤ 8 by omega), hEb5, fun j h0 h5 => rfl⟩⟩

set_option maxRecDepth 20000 in
theorem c_become (l : Launch) (G : Gl) (n : Nat) (ad : Nat → Nat) (E : Nat → va_E) (b : Nat) (hb : b + 6 ≤ n) {ip kd : Nat → Int32} (hEb : E b = ob 5 (rP ad b) ip) (hEb5 : E (b + 5) = aI G 8 kd) (hh1 : 0 ≤ (ip 5).toInt) (hh2 : (ip 5).toInt ≤ 8) (x : Int32) (y : Int32)  : CtI l G yX5_become cX5_become 3 .boolean 0 0 n ad E [.ref (ad b), .int x, .int y] (fun r E' => (r = 1 ∨ r = 0) ∧ FR G ad b E E' ip) := by
  refine CtI.of (by decide) (Nat.le_of_ble_eq_true rfl) (fun X A C => ?_)
  refine v_sub (lv' := [(0, .ref (ad b)), (1, .int x), (2, .int y)]) [0, 1, 2] rfl ?_
  refine v_aload_n C 0 dX5_become_0 rfl rfl ?_
  refine v_geti (v := ip 5) C b dX5_become_1 fX5_38 (by omega) hEb rfl rfl ?_
  refine v_iconst (v := 1) C dX5_become_4 (by decide) ?_
  refine b_icmp_lt C 23 dX5_become_5 (by decide) (rfl : Int32.toInt (ip 5) = _) (show (1 : Int32).toInt = 1 by decide) (fun c1 => ?_) (fun c1 => ?_)
  · refine v_iconst (v := 0) C dX5_become_23 (by decide) ?_
    exact v_ret C dX5_become_24 rfl rfl ⟨Or.inr rfl, ⟨_, _, hEb, (fun _ _ => rfl), (show 0 ≤ Int32.toInt (ip 5) by omega), (show Int32.toInt (ip 5) ≤ 8 by omega), hEb5, fun j h0 h5 => rfl⟩⟩
  · refine v_aload_n C 0 dX5_become_8 rfl rfl ?_
    refine v_getr C b dX5_become_9 fX5_24 (by omega) hEb rfl rfl ?_
    refine v_aload_n C 0 dX5_become_12 rfl rfl ?_
    refine v_geti (v := ip 5) C b dX5_become_13 fX5_38 (by omega) hEb rfl rfl ?_
    refine v_iconst (v := 1) C dX5_become_16 (by decide) ?_
    refine v_isub C dX5_become_17 ?_
    refine v_top (fun x2 ex2 => ?_)
    have hx2 : x2.toInt = ((ip 5).toInt - 1) := by rw [ex2]; exact ti_sub (rfl : Int32.toInt (ip 5) = _) (show (1 : Int32).toInt = 1 by decide) (by omega) (by omega)
    refine v_ald (v := kd (((ip 5).toInt - 1)).toNat) C (b + 5) dX5_become_18 (by omega) hEb5 (ti_in hx2 (by omega) (by omega)) (by rw [ti_cl hx2]) ?_
    refine v_iload_n C 1 dX5_become_19 rfl rfl ?_
    refine b_icmp_eq C 25 dX5_become_20 (by decide) (rfl : Int32.toInt (kd (((ip 5).toInt - 1)).toNat) = _) (rfl : Int32.toInt x = _) (fun c3 => ?_) (fun c3 => ?_)
    · refine v_aload_n C 0 dX5_become_25 rfl rfl ?_
      refine v_getr C b dX5_become_26 fX5_24 (by omega) hEb rfl rfl ?_
      refine v_aload_n C 0 dX5_become_29 rfl rfl ?_
      refine v_geti (v := ip 5) C b dX5_become_30 fX5_38 (by omega) hEb rfl rfl ?_
      refine v_iconst (v := 1) C dX5_become_33 (by decide) ?_
      refine v_isub C dX5_become_34 ?_
      refine v_top (fun x4 ex4 => ?_)
      have hx4 : x4.toInt = ((ip 5).toInt - 1) := by rw [ex4]; exact ti_sub (rfl : Int32.toInt (ip 5) = _) (show (1 : Int32).toInt = 1 by decide) (by omega) (by omega)
      refine v_iload_n C 2 dX5_become_35 rfl rfl ?_
      refine v_ast C (b + 5) dX5_become_36 (by omega) hEb5 (ti_in hx4 (by omega) (by omega)) (fun E5 hE5_b5 oE5 => ?_)
      rw [ti_cl hx4] at hE5_b5
      have hE5_b := (oE5 b (by omega)).trans hEb
      refine v_iconst (v := 1) C dX5_become_37 (by decide) ?_
      exact v_ret C dX5_become_38 rfl rfl ⟨Or.inl rfl, ⟨_, _, hE5_b, (fun _ _ => rfl), (show 0 ≤ Int32.toInt (ip 5) by omega), (show Int32.toInt (ip 5) ≤ 8 by omega), hE5_b5, fun j h0 h5 => (oE5 j h5)⟩⟩
    · refine v_iconst (v := 0) C dX5_become_23 (by decide) ?_
      exact v_ret C dX5_become_24 rfl rfl ⟨Or.inr rfl, ⟨_, _, hEb, (fun _ _ => rfl), (show 0 ≤ Int32.toInt (ip 5) by omega), (show Int32.toInt (ip 5) ≤ 8 by omega), hEb5, fun j h0 h5 => rfl⟩⟩

set_option maxRecDepth 20000 in
theorem c_pairFits (l : Launch) (G : Gl) (n : Nat) (ad : Nat → Nat) (E : Nat → va_E) (b : Nat) (hb : b + 6 ≤ n) {ip kd : Nat → Int32} (hEb : E b = ob 5 (rP ad b) ip) (hEb5 : E (b + 5) = aI G 8 kd) (hh1 : 0 ≤ (ip 5).toInt) (hh2 : (ip 5).toInt ≤ 8) (op : Int32) (x : Int32) (y : Int32)  : CtI l G yX5_pairFits cX5_pairFits 6 .boolean 0 0 n ad E [.ref (ad b), .int op, .int x, .int y] (fun r E' => (r = 1 ∨ r = 0) ∧ FR G ad b E E' ip) := by
  refine CtI.of (by decide) (Nat.le_of_ble_eq_true rfl) (fun X A C => ?_)
  refine v_sub (lv' := [(0, .ref (ad b)), (1, .int op), (2, .int x), (3, .int y)]) [0, 1, 2, 3] rfl ?_
  refine v_aload_n C 0 dX5_pairFits_0 rfl rfl ?_
  refine v_geti (v := ip 5) C b dX5_pairFits_1 fX5_38 (by omega) hEb rfl rfl ?_
  refine v_iconst (v := 2) C dX5_pairFits_4 (by decide) ?_
  refine b_icmp_ge C 10 dX5_pairFits_5 (by decide) (rfl : Int32.toInt (ip 5) = _) (show (2 : Int32).toInt = 2 by decide) (fun c1 => ?_) (fun c1 => ?_)
  · refine v_iload_n C 1 dX5_pairFits_10 rfl rfl ?_
    refine v_bipush (v := 11) C dX5_pairFits_11 (by decide) ?_
    refine b_icmp_ne C 42 dX5_pairFits_13 (by decide) (rfl : Int32.toInt op = _) (show (11 : Int32).toInt = 11 by decide) (fun c2 => ?_) (fun c2 => ?_)
    · refine v_iload_n C 1 dX5_pairFits_42 rfl rfl ?_
      refine v_bipush (v := 8) C dX5_pairFits_43 (by decide) ?_
      refine b_icmp_ne C 62 dX5_pairFits_45 (by decide) (rfl : Int32.toInt op = _) (show (8 : Int32).toInt = 8 by decide) (fun c3 => ?_) (fun c3 => ?_)
      · refine v_iconst (v := 0) C dX5_pairFits_62 (by decide) ?_
        refine v_istore (lv' := [(0, .ref (ad b)), (1, .int op), (2, .int x), (3, .int y), (4, .int 0)]) C [1, 2, 3, 4, 0] dX5_pairFits_63 (by decide) rfl ?_
        refine v_iload_n C 1 dX5_pairFits_65 rfl rfl ?_
        refine v_bipush (v := 9) C dX5_pairFits_66 (by decide) ?_
        refine b_icmp_ne C 89 dX5_pairFits_68 (by decide) (rfl : Int32.toInt op = _) (show (9 : Int32).toInt = 9 by decide) (fun c4 => ?_) (fun c4 => ?_)
        · refine v_iconst (v := 0) C dX5_pairFits_89 (by decide) ?_
          refine v_istore (lv' := [(0, .ref (ad b)), (1, .int op), (2, .int x), (3, .int y), (4, .int 0), (5, .int 0)]) C [1, 2, 3, 4, 5, 0] dX5_pairFits_90 (by decide) rfl ?_
          refine v_iload C 4 dX5_pairFits_92 rfl ?_
          refine b_if_eq C 109 dX5_pairFits_94 (by decide) (show (0 : Int32).toInt = 0 by decide) (fun c5 => ?_) (fun c5 => absurd c5 (by decide))
          refine v_iload C 4 dX5_pairFits_109 rfl ?_
          refine b_if_ne C 119 dX5_pairFits_111 (by decide) (show (0 : Int32).toInt = 0 by decide) (fun c6 => absurd c6 (by decide)) (fun c6 => ?_)
          refine v_iload C 5 dX5_pairFits_114 rfl ?_
          refine b_if_eq C 129 dX5_pairFits_116 (by decide) (show (0 : Int32).toInt = 0 by decide) (fun c7 => ?_) (fun c7 => absurd c7 (by decide))
          refine v_iload C 4 dX5_pairFits_129 rfl ?_
          refine b_if_ne C 139 dX5_pairFits_131 (by decide) (show (0 : Int32).toInt = 0 by decide) (fun c8 => absurd c8 (by decide)) (fun c8 => ?_)
          refine v_iload C 5 dX5_pairFits_134 rfl ?_
          refine b_if_eq C 143 dX5_pairFits_136 (by decide) (show (0 : Int32).toInt = 0 by decide) (fun c9 => ?_) (fun c9 => absurd c9 (by decide))
          refine v_iconst (v := 0) C dX5_pairFits_143 (by decide) ?_
          exact v_ret C dX5_pairFits_144 rfl rfl ⟨Or.inr rfl, ⟨_, _, hEb, (fun _ _ => rfl), (show 0 ≤ Int32.toInt (ip 5) by omega), (show Int32.toInt (ip 5) ≤ 8 by omega), hEb5, fun j h0 h5 => rfl⟩⟩
        · refine v_iload_n C 3 dX5_pairFits_71 rfl rfl ?_
          refine v_iconst (v := 3) C dX5_pairFits_72 (by decide) ?_
          refine b_icmp_ne C 89 dX5_pairFits_73 (by decide) (rfl : Int32.toInt y = _) (show (3 : Int32).toInt = 3 by decide) (fun c10 => ?_) (fun c10 => ?_)
          · refine v_iconst (v := 0) C dX5_pairFits_89 (by decide) ?_
            refine v_istore (lv' := [(0, .ref (ad b)), (1, .int op), (2, .int x), (3, .int y), (4, .int 0), (5, .int 0)]) C [1, 2, 3, 4, 5, 0] dX5_pairFits_90 (by decide) rfl ?_
            refine v_iload C 4 dX5_pairFits_92 rfl ?_
            refine b_if_eq C 109 dX5_pairFits_94 (by decide) (show (0 : Int32).toInt = 0 by decide) (fun c11 => ?_) (fun c11 => absurd c11 (by decide))
            refine v_iload C 4 dX5_pairFits_109 rfl ?_
            refine b_if_ne C 119 dX5_pairFits_111 (by decide) (show (0 : Int32).toInt = 0 by decide) (fun c12 => absurd c12 (by decide)) (fun c12 => ?_)
            refine v_iload C 5 dX5_pairFits_114 rfl ?_
            refine b_if_eq C 129 dX5_pairFits_116 (by decide) (show (0 : Int32).toInt = 0 by decide) (fun c13 => ?_) (fun c13 => absurd c13 (by decide))
            refine v_iload C 4 dX5_pairFits_129 rfl ?_
            refine b_if_ne C 139 dX5_pairFits_131 (by decide) (show (0 : Int32).toInt = 0 by decide) (fun c14 => absurd c14 (by decide)) (fun c14 => ?_)
            refine v_iload C 5 dX5_pairFits_134 rfl ?_
            refine b_if_eq C 143 dX5_pairFits_136 (by decide) (show (0 : Int32).toInt = 0 by decide) (fun c15 => ?_) (fun c15 => absurd c15 (by decide))
            refine v_iconst (v := 0) C dX5_pairFits_143 (by decide) ?_
            exact v_ret C dX5_pairFits_144 rfl rfl ⟨Or.inr rfl, ⟨_, _, hEb, (fun _ _ => rfl), (show 0 ≤ Int32.toInt (ip 5) by omega), (show Int32.toInt (ip 5) ≤ 8 by omega), hEb5, fun j h0 h5 => rfl⟩⟩
          · refine v_iload_n C 2 dX5_pairFits_76 rfl rfl ?_
            refine b_if_eq C 85 dX5_pairFits_77 (by decide) (rfl : Int32.toInt x = _) (fun c16 => ?_) (fun c16 => ?_)
            · refine v_iconst (v := 1) C dX5_pairFits_85 (by decide) ?_
              refine v_goto C 90 dX5_pairFits_86 (by decide) ?_
              refine v_istore (lv' := [(0, .ref (ad b)), (1, .int op), (2, .int x), (3, .int y), (4, .int 0), (5, .int 1)]) C [1, 2, 3, 4, 5, 0] dX5_pairFits_90 (by decide) rfl ?_
              refine v_iload C 4 dX5_pairFits_92 rfl ?_
              refine b_if_eq C 109 dX5_pairFits_94 (by decide) (show (0 : Int32).toInt = 0 by decide) (fun c17 => ?_) (fun c17 => absurd c17 (by decide))
              refine v_iload C 4 dX5_pairFits_109 rfl ?_
              refine b_if_ne C 119 dX5_pairFits_111 (by decide) (show (0 : Int32).toInt = 0 by decide) (fun c18 => absurd c18 (by decide)) (fun c18 => ?_)
              refine v_iload C 5 dX5_pairFits_114 rfl ?_
              refine b_if_eq C 129 dX5_pairFits_116 (by decide) (show (1 : Int32).toInt = 1 by decide) (fun c19 => absurd c19 (by decide)) (fun c19 => ?_)
              refine v_aload_n C 0 dX5_pairFits_119 rfl rfl ?_
              refine v_dup C dX5_pairFits_120 rfl ?_
              refine v_geti (v := ip 5) C b dX5_pairFits_121 fX5_38 (by omega) hEb rfl rfl ?_
              refine v_iconst (v := 1) C dX5_pairFits_124 (by decide) ?_
              refine v_isub C dX5_pairFits_125 ?_
              refine v_top (fun x20 ex20 => ?_)
              have hx20 : x20.toInt = ((ip 5).toInt - 1) := by rw [ex20]; exact ti_sub (rfl : Int32.toInt (ip 5) = _) (show (1 : Int32).toInt = 1 by decide) (by omega) (by omega)
              refine v_puti C b dX5_pairFits_126 fX5_38 (by omega) hEb rfl rfl rfl rfl (fun E21 hE21_b oE21 => ?_)
              have hE21_b5 := (oE21 (b + 5) (by omega)).trans hEb5
              refine v_iload C 4 dX5_pairFits_129 rfl ?_
              refine b_if_ne C 139 dX5_pairFits_131 (by decide) (show (0 : Int32).toInt = 0 by decide) (fun c22 => absurd c22 (by decide)) (fun c22 => ?_)
              refine v_iload C 5 dX5_pairFits_134 rfl ?_
              refine b_if_eq C 143 dX5_pairFits_136 (by decide) (show (1 : Int32).toInt = 1 by decide) (fun c23 => absurd c23 (by decide)) (fun c23 => ?_)
              refine v_iconst (v := 1) C dX5_pairFits_139 (by decide) ?_
              refine v_goto C 144 dX5_pairFits_140 (by decide) ?_
              exact v_ret C dX5_pairFits_144 rfl rfl ⟨Or.inl rfl, ⟨_, _, hE21_b, (fun k hk => (if_neg hk : va_up _ 5 _ k = _).trans ((fun _ _ => rfl) k hk)), (show 0 ≤ Int32.toInt x20 by omega), (show Int32.toInt x20 ≤ 8 by omega), hE21_b5, fun j h0 h5 => (oE21 j h0)⟩⟩
            · refine v_iload_n C 2 dX5_pairFits_80 rfl rfl ?_
              refine v_iconst (v := 1) C dX5_pairFits_81 (by decide) ?_
              refine b_icmp_ne C 89 dX5_pairFits_82 (by decide) (rfl : Int32.toInt x = _) (show (1 : Int32).toInt = 1 by decide) (fun c24 => ?_) (fun c24 => ?_)
              · refine v_iconst (v := 0) C dX5_pairFits_89 (by decide) ?_
                refine v_istore (lv' := [(0, .ref (ad b)), (1, .int op), (2, .int x), (3, .int y), (4, .int 0), (5, .int 0)]) C [1, 2, 3, 4, 5, 0] dX5_pairFits_90 (by decide) rfl ?_
                refine v_iload C 4 dX5_pairFits_92 rfl ?_
                refine b_if_eq C 109 dX5_pairFits_94 (by decide) (show (0 : Int32).toInt = 0 by decide) (fun c25 => ?_) (fun c25 => absurd c25 (by decide))
                refine v_iload C 4 dX5_pairFits_109 rfl ?_
                refine b_if_ne C 119 dX5_pairFits_111 (by decide) (show (0 : Int32).toInt = 0 by decide) (fun c26 => absurd c26 (by decide)) (fun c26 => ?_)
                refine v_iload C 5 dX5_pairFits_114 rfl ?_
                refine b_if_eq C 129 dX5_pairFits_116 (by decide) (show (0 : Int32).toInt = 0 by decide) (fun c27 => ?_) (fun c27 => absurd c27 (by decide))
                refine v_iload C 4 dX5_pairFits_129 rfl ?_
                refine b_if_ne C 139 dX5_pairFits_131 (by decide) (show (0 : Int32).toInt = 0 by decide) (fun c28 => absurd c28 (by decide)) (fun c28 => ?_)
                refine v_iload C 5 dX5_pairFits_134 rfl ?_
                refine b_if_eq C 143 dX5_pairFits_136 (by decide) (show (0 : Int32).toInt = 0 by decide) (fun c29 => ?_) (fun c29 => absurd c29 (by decide))
                refine v_iconst (v := 0) C dX5_pairFits_143 (by decide) ?_
                exact v_ret C dX5_pairFits_144 rfl rfl ⟨Or.inr rfl, ⟨_, _, hEb, (fun _ _ => rfl), (show 0 ≤ Int32.toInt (ip 5) by omega), (show Int32.toInt (ip 5) ≤ 8 by omega), hEb5, fun j h0 h5 => rfl⟩⟩
              · refine v_iconst (v := 1) C dX5_pairFits_85 (by decide) ?_
                refine v_goto C 90 dX5_pairFits_86 (by decide) ?_
                refine v_istore (lv' := [(0, .ref (ad b)), (1, .int op), (2, .int x), (3, .int y), (4, .int 0), (5, .int 1)]) C [1, 2, 3, 4, 5, 0] dX5_pairFits_90 (by decide) rfl ?_
                refine v_iload C 4 dX5_pairFits_92 rfl ?_
                refine b_if_eq C 109 dX5_pairFits_94 (by decide) (show (0 : Int32).toInt = 0 by decide) (fun c30 => ?_) (fun c30 => absurd c30 (by decide))
                refine v_iload C 4 dX5_pairFits_109 rfl ?_
                refine b_if_ne C 119 dX5_pairFits_111 (by decide) (show (0 : Int32).toInt = 0 by decide) (fun c31 => absurd c31 (by decide)) (fun c31 => ?_)
                refine v_iload C 5 dX5_pairFits_114 rfl ?_
                refine b_if_eq C 129 dX5_pairFits_116 (by decide) (show (1 : Int32).toInt = 1 by decide) (fun c32 => absurd c32 (by decide)) (fun c32 => ?_)
                refine v_aload_n C 0 dX5_pairFits_119 rfl rfl ?_
                refine v_dup C dX5_pairFits_120 rfl ?_
                refine v_geti (v := ip 5) C b dX5_pairFits_121 fX5_38 (by omega) hEb rfl rfl ?_
                refine v_iconst (v := 1) C dX5_pairFits_124 (by decide) ?_
                refine v_isub C dX5_pairFits_125 ?_
                refine v_top (fun x33 ex33 => ?_)
                have hx33 : x33.toInt = ((ip 5).toInt - 1) := by rw [ex33]; exact ti_sub (rfl : Int32.toInt (ip 5) = _) (show (1 : Int32).toInt = 1 by decide) (by omega) (by omega)
                refine v_puti C b dX5_pairFits_126 fX5_38 (by omega) hEb rfl rfl rfl rfl (fun E34 hE34_b oE34 => ?_)
                have hE34_b5 := (oE34 (b + 5) (by omega)).trans hEb5
                refine v_iload C 4 dX5_pairFits_129 rfl ?_
                refine b_if_ne C 139 dX5_pairFits_131 (by decide) (show (0 : Int32).toInt = 0 by decide) (fun c35 => absurd c35 (by decide)) (fun c35 => ?_)
                refine v_iload C 5 dX5_pairFits_134 rfl ?_
                refine b_if_eq C 143 dX5_pairFits_136 (by decide) (show (1 : Int32).toInt = 1 by decide) (fun c36 => absurd c36 (by decide)) (fun c36 => ?_)
                refine v_iconst (v := 1) C dX5_pairFits_139 (by decide) ?_
                refine v_goto C 144 dX5_pairFits_140 (by decide) ?_
                exact v_ret C dX5_pairFits_144 rfl rfl ⟨Or.inl rfl, ⟨_, _, hE34_b, (fun k hk => (if_neg hk : va_up _ 5 _ k = _).trans ((fun _ _ => rfl) k hk)), (show 0 ≤ Int32.toInt x33 by omega), (show Int32.toInt x33 ≤ 8 by omega), hE34_b5, fun j h0 h5 => (oE34 j h0)⟩⟩
      · refine v_iload_n C 2 dX5_pairFits_48 rfl rfl ?_
        refine v_iload_n C 3 dX5_pairFits_49 rfl rfl ?_
        refine b_icmp_ne C 62 dX5_pairFits_50 (by decide) (rfl : Int32.toInt x = _) (rfl : Int32.toInt y = _) (fun c37 => ?_) (fun c37 => ?_)
        · refine v_iconst (v := 0) C dX5_pairFits_62 (by decide) ?_
          refine v_istore (lv' := [(0, .ref (ad b)), (1, .int op), (2, .int x), (3, .int y), (4, .int 0)]) C [1, 2, 3, 4, 0] dX5_pairFits_63 (by decide) rfl ?_
          refine v_iload_n C 1 dX5_pairFits_65 rfl rfl ?_
          refine v_bipush (v := 9) C dX5_pairFits_66 (by decide) ?_
          refine b_icmp_ne C 89 dX5_pairFits_68 (by decide) (rfl : Int32.toInt op = _) (show (9 : Int32).toInt = 9 by decide) (fun c38 => ?_) (fun c38 => ?_)
          · refine v_iconst (v := 0) C dX5_pairFits_89 (by decide) ?_
            refine v_istore (lv' := [(0, .ref (ad b)), (1, .int op), (2, .int x), (3, .int y), (4, .int 0), (5, .int 0)]) C [1, 2, 3, 4, 5, 0] dX5_pairFits_90 (by decide) rfl ?_
            refine v_iload C 4 dX5_pairFits_92 rfl ?_
            refine b_if_eq C 109 dX5_pairFits_94 (by decide) (show (0 : Int32).toInt = 0 by decide) (fun c39 => ?_) (fun c39 => absurd c39 (by decide))
            refine v_iload C 4 dX5_pairFits_109 rfl ?_
            refine b_if_ne C 119 dX5_pairFits_111 (by decide) (show (0 : Int32).toInt = 0 by decide) (fun c40 => absurd c40 (by decide)) (fun c40 => ?_)
            refine v_iload C 5 dX5_pairFits_114 rfl ?_
            refine b_if_eq C 129 dX5_pairFits_116 (by decide) (show (0 : Int32).toInt = 0 by decide) (fun c41 => ?_) (fun c41 => absurd c41 (by decide))
            refine v_iload C 4 dX5_pairFits_129 rfl ?_
            refine b_if_ne C 139 dX5_pairFits_131 (by decide) (show (0 : Int32).toInt = 0 by decide) (fun c42 => absurd c42 (by decide)) (fun c42 => ?_)
            refine v_iload C 5 dX5_pairFits_134 rfl ?_
            refine b_if_eq C 143 dX5_pairFits_136 (by decide) (show (0 : Int32).toInt = 0 by decide) (fun c43 => ?_) (fun c43 => absurd c43 (by decide))
            refine v_iconst (v := 0) C dX5_pairFits_143 (by decide) ?_
            exact v_ret C dX5_pairFits_144 rfl rfl ⟨Or.inr rfl, ⟨_, _, hEb, (fun _ _ => rfl), (show 0 ≤ Int32.toInt (ip 5) by omega), (show Int32.toInt (ip 5) ≤ 8 by omega), hEb5, fun j h0 h5 => rfl⟩⟩
          · refine v_iload_n C 3 dX5_pairFits_71 rfl rfl ?_
            refine v_iconst (v := 3) C dX5_pairFits_72 (by decide) ?_
            refine b_icmp_ne C 89 dX5_pairFits_73 (by decide) (rfl : Int32.toInt y = _) (show (3 : Int32).toInt = 3 by decide) (fun c44 => ?_) (fun c44 => ?_)
            · refine v_iconst (v := 0) C dX5_pairFits_89 (by decide) ?_
              refine v_istore (lv' := [(0, .ref (ad b)), (1, .int op), (2, .int x), (3, .int y), (4, .int 0), (5, .int 0)]) C [1, 2, 3, 4, 5, 0] dX5_pairFits_90 (by decide) rfl ?_
              refine v_iload C 4 dX5_pairFits_92 rfl ?_
              refine b_if_eq C 109 dX5_pairFits_94 (by decide) (show (0 : Int32).toInt = 0 by decide) (fun c45 => ?_) (fun c45 => absurd c45 (by decide))
              refine v_iload C 4 dX5_pairFits_109 rfl ?_
              refine b_if_ne C 119 dX5_pairFits_111 (by decide) (show (0 : Int32).toInt = 0 by decide) (fun c46 => absurd c46 (by decide)) (fun c46 => ?_)
              refine v_iload C 5 dX5_pairFits_114 rfl ?_
              refine b_if_eq C 129 dX5_pairFits_116 (by decide) (show (0 : Int32).toInt = 0 by decide) (fun c47 => ?_) (fun c47 => absurd c47 (by decide))
              refine v_iload C 4 dX5_pairFits_129 rfl ?_
              refine b_if_ne C 139 dX5_pairFits_131 (by decide) (show (0 : Int32).toInt = 0 by decide) (fun c48 => absurd c48 (by decide)) (fun c48 => ?_)
              refine v_iload C 5 dX5_pairFits_134 rfl ?_
              refine b_if_eq C 143 dX5_pairFits_136 (by decide) (show (0 : Int32).toInt = 0 by decide) (fun c49 => ?_) (fun c49 => absurd c49 (by decide))
              refine v_iconst (v := 0) C dX5_pairFits_143 (by decide) ?_
              exact v_ret C dX5_pairFits_144 rfl rfl ⟨Or.inr rfl, ⟨_, _, hEb, (fun _ _ => rfl), (show 0 ≤ Int32.toInt (ip 5) by omega), (show Int32.toInt (ip 5) ≤ 8 by omega), hEb5, fun j h0 h5 => rfl⟩⟩
            · refine v_iload_n C 2 dX5_pairFits_76 rfl rfl ?_
              refine b_if_eq C 85 dX5_pairFits_77 (by decide) (rfl : Int32.toInt x = _) (fun c50 => ?_) (fun c50 => ?_)
              · refine v_iconst (v := 1) C dX5_pairFits_85 (by decide) ?_
                refine v_goto C 90 dX5_pairFits_86 (by decide) ?_
                refine v_istore (lv' := [(0, .ref (ad b)), (1, .int op), (2, .int x), (3, .int y), (4, .int 0), (5, .int 1)]) C [1, 2, 3, 4, 5, 0] dX5_pairFits_90 (by decide) rfl ?_
                refine v_iload C 4 dX5_pairFits_92 rfl ?_
                refine b_if_eq C 109 dX5_pairFits_94 (by decide) (show (0 : Int32).toInt = 0 by decide) (fun c51 => ?_) (fun c51 => absurd c51 (by decide))
                refine v_iload C 4 dX5_pairFits_109 rfl ?_
                refine b_if_ne C 119 dX5_pairFits_111 (by decide) (show (0 : Int32).toInt = 0 by decide) (fun c52 => absurd c52 (by decide)) (fun c52 => ?_)
                refine v_iload C 5 dX5_pairFits_114 rfl ?_
                refine b_if_eq C 129 dX5_pairFits_116 (by decide) (show (1 : Int32).toInt = 1 by decide) (fun c53 => absurd c53 (by decide)) (fun c53 => ?_)
                refine v_aload_n C 0 dX5_pairFits_119 rfl rfl ?_
                refine v_dup C dX5_pairFits_120 rfl ?_
                refine v_geti (v := ip 5) C b dX5_pairFits_121 fX5_38 (by omega) hEb rfl rfl ?_
                refine v_iconst (v := 1) C dX5_pairFits_124 (by decide) ?_
                refine v_isub C dX5_pairFits_125 ?_
                refine v_top (fun x54 ex54 => ?_)
                have hx54 : x54.toInt = ((ip 5).toInt - 1) := by rw [ex54]; exact ti_sub (rfl : Int32.toInt (ip 5) = _) (show (1 : Int32).toInt = 1 by decide) (by omega) (by omega)
                refine v_puti C b dX5_pairFits_126 fX5_38 (by omega) hEb rfl rfl rfl rfl (fun E55 hE55_b oE55 => ?_)
                have hE55_b5 := (oE55 (b + 5) (by omega)).trans hEb5
                refine v_iload C 4 dX5_pairFits_129 rfl ?_
                refine b_if_ne C 139 dX5_pairFits_131 (by decide) (show (0 : Int32).toInt = 0 by decide) (fun c56 => absurd c56 (by decide)) (fun c56 => ?_)
                refine v_iload C 5 dX5_pairFits_134 rfl ?_
                refine b_if_eq C 143 dX5_pairFits_136 (by decide) (show (1 : Int32).toInt = 1 by decide) (fun c57 => absurd c57 (by decide)) (fun c57 => ?_)
                refine v_iconst (v := 1) C dX5_pairFits_139 (by decide) ?_
                refine v_goto C 144 dX5_pairFits_140 (by decide) ?_
                exact v_ret C dX5_pairFits_144 rfl rfl ⟨Or.inl rfl, ⟨_, _, hE55_b, (fun k hk => (if_neg hk : va_up _ 5 _ k = _).trans ((fun _ _ => rfl) k hk)), (show 0 ≤ Int32.toInt x54 by omega), (show Int32.toInt x54 ≤ 8 by omega), hE55_b5, fun j h0 h5 => (oE55 j h0)⟩⟩
              · refine v_iload_n C 2 dX5_pairFits_80 rfl rfl ?_
                refine v_iconst (v := 1) C dX5_pairFits_81 (by decide) ?_
                refine b_icmp_ne C 89 dX5_pairFits_82 (by decide) (rfl : Int32.toInt x = _) (show (1 : Int32).toInt = 1 by decide) (fun c58 => ?_) (fun c58 => ?_)
                · refine v_iconst (v := 0) C dX5_pairFits_89 (by decide) ?_
                  refine v_istore (lv' := [(0, .ref (ad b)), (1, .int op), (2, .int x), (3, .int y), (4, .int 0), (5, .int 0)]) C [1, 2, 3, 4, 5, 0] dX5_pairFits_90 (by decide) rfl ?_
                  refine v_iload C 4 dX5_pairFits_92 rfl ?_
                  refine b_if_eq C 109 dX5_pairFits_94 (by decide) (show (0 : Int32).toInt = 0 by decide) (fun c59 => ?_) (fun c59 => absurd c59 (by decide))
                  refine v_iload C 4 dX5_pairFits_109 rfl ?_
                  refine b_if_ne C 119 dX5_pairFits_111 (by decide) (show (0 : Int32).toInt = 0 by decide) (fun c60 => absurd c60 (by decide)) (fun c60 => ?_)
                  refine v_iload C 5 dX5_pairFits_114 rfl ?_
                  refine b_if_eq C 129 dX5_pairFits_116 (by decide) (show (0 : Int32).toInt = 0 by decide) (fun c61 => ?_) (fun c61 => absurd c61 (by decide))
                  refine v_iload C 4 dX5_pairFits_129 rfl ?_
                  refine b_if_ne C 139 dX5_pairFits_131 (by decide) (show (0 : Int32).toInt = 0 by decide) (fun c62 => absurd c62 (by decide)) (fun c62 => ?_)
                  refine v_iload C 5 dX5_pairFits_134 rfl ?_
                  refine b_if_eq C 143 dX5_pairFits_136 (by decide) (show (0 : Int32).toInt = 0 by decide) (fun c63 => ?_) (fun c63 => absurd c63 (by decide))
                  refine v_iconst (v := 0) C dX5_pairFits_143 (by decide) ?_
                  exact v_ret C dX5_pairFits_144 rfl rfl ⟨Or.inr rfl, ⟨_, _, hEb, (fun _ _ => rfl), (show 0 ≤ Int32.toInt (ip 5) by omega), (show Int32.toInt (ip 5) ≤ 8 by omega), hEb5, fun j h0 h5 => rfl⟩⟩
                · refine v_iconst (v := 1) C dX5_pairFits_85 (by decide) ?_
                  refine v_goto C 90 dX5_pairFits_86 (by decide) ?_
                  refine v_istore (lv' := [(0, .ref (ad b)), (1, .int op), (2, .int x), (3, .int y), (4, .int 0), (5, .int 1)]) C [1, 2, 3, 4, 5, 0] dX5_pairFits_90 (by decide) rfl ?_
                  refine v_iload C 4 dX5_pairFits_92 rfl ?_
                  refine b_if_eq C 109 dX5_pairFits_94 (by decide) (show (0 : Int32).toInt = 0 by decide) (fun c64 => ?_) (fun c64 => absurd c64 (by decide))
                  refine v_iload C 4 dX5_pairFits_109 rfl ?_
                  refine b_if_ne C 119 dX5_pairFits_111 (by decide) (show (0 : Int32).toInt = 0 by decide) (fun c65 => absurd c65 (by decide)) (fun c65 => ?_)
                  refine v_iload C 5 dX5_pairFits_114 rfl ?_
                  refine b_if_eq C 129 dX5_pairFits_116 (by decide) (show (1 : Int32).toInt = 1 by decide) (fun c66 => absurd c66 (by decide)) (fun c66 => ?_)
                  refine v_aload_n C 0 dX5_pairFits_119 rfl rfl ?_
                  refine v_dup C dX5_pairFits_120 rfl ?_
                  refine v_geti (v := ip 5) C b dX5_pairFits_121 fX5_38 (by omega) hEb rfl rfl ?_
                  refine v_iconst (v := 1) C dX5_pairFits_124 (by decide) ?_
                  refine v_isub C dX5_pairFits_125 ?_
                  refine v_top (fun x67 ex67 => ?_)
                  have hx67 : x67.toInt = ((ip 5).toInt - 1) := by rw [ex67]; exact ti_sub (rfl : Int32.toInt (ip 5) = _) (show (1 : Int32).toInt = 1 by decide) (by omega) (by omega)
                  refine v_puti C b dX5_pairFits_126 fX5_38 (by omega) hEb rfl rfl rfl rfl (fun E68 hE68_b oE68 => ?_)
                  have hE68_b5 := (oE68 (b + 5) (by omega)).trans hEb5
                  refine v_iload C 4 dX5_pairFits_129 rfl ?_
                  refine b_if_ne C 139 dX5_pairFits_131 (by decide) (show (0 : Int32).toInt = 0 by decide) (fun c69 => absurd c69 (by decide)) (fun c69 => ?_)
                  refine v_iload C 5 dX5_pairFits_134 rfl ?_
                  refine b_if_eq C 143 dX5_pairFits_136 (by decide) (show (1 : Int32).toInt = 1 by decide) (fun c70 => absurd c70 (by decide)) (fun c70 => ?_)
                  refine v_iconst (v := 1) C dX5_pairFits_139 (by decide) ?_
                  refine v_goto C 144 dX5_pairFits_140 (by decide) ?_
                  exact v_ret C dX5_pairFits_144 rfl rfl ⟨Or.inl rfl, ⟨_, _, hE68_b, (fun k hk => (if_neg hk : va_up _ 5 _ k = _).trans ((fun _ _ => rfl) k hk)), (show 0 ≤ Int32.toInt x67 by omega), (show Int32.toInt x67 ≤ 8 by omega), hE68_b5, fun j h0 h5 => (oE68 j h0)⟩⟩
        · refine v_iload_n C 3 dX5_pairFits_53 rfl rfl ?_
          refine v_iconst (v := 3) C dX5_pairFits_54 (by decide) ?_
          refine b_icmp_eq C 62 dX5_pairFits_55 (by decide) (rfl : Int32.toInt y = _) (show (3 : Int32).toInt = 3 by decide) (fun c71 => ?_) (fun c71 => ?_)
          · refine v_iconst (v := 0) C dX5_pairFits_62 (by decide) ?_
            refine v_istore (lv' := [(0, .ref (ad b)), (1, .int op), (2, .int x), (3, .int y), (4, .int 0)]) C [1, 2, 3, 4, 0] dX5_pairFits_63 (by decide) rfl ?_
            refine v_iload_n C 1 dX5_pairFits_65 rfl rfl ?_
            refine v_bipush (v := 9) C dX5_pairFits_66 (by decide) ?_
            refine b_icmp_ne C 89 dX5_pairFits_68 (by decide) (rfl : Int32.toInt op = _) (show (9 : Int32).toInt = 9 by decide) (fun c72 => ?_) (fun c72 => ?_)
            · refine v_iconst (v := 0) C dX5_pairFits_89 (by decide) ?_
              refine v_istore (lv' := [(0, .ref (ad b)), (1, .int op), (2, .int x), (3, .int y), (4, .int 0), (5, .int 0)]) C [1, 2, 3, 4, 5, 0] dX5_pairFits_90 (by decide) rfl ?_
              refine v_iload C 4 dX5_pairFits_92 rfl ?_
              refine b_if_eq C 109 dX5_pairFits_94 (by decide) (show (0 : Int32).toInt = 0 by decide) (fun c73 => ?_) (fun c73 => absurd c73 (by decide))
              refine v_iload C 4 dX5_pairFits_109 rfl ?_
              refine b_if_ne C 119 dX5_pairFits_111 (by decide) (show (0 : Int32).toInt = 0 by decide) (fun c74 => absurd c74 (by decide)) (fun c74 => ?_)
              refine v_iload C 5 dX5_pairFits_114 rfl ?_
              refine b_if_eq C 129 dX5_pairFits_116 (by decide) (show (0 : Int32).toInt = 0 by decide) (fun c75 => ?_) (fun c75 => absurd c75 (by decide))
              refine v_iload C 4 dX5_pairFits_129 rfl ?_
              refine b_if_ne C 139 dX5_pairFits_131 (by decide) (show (0 : Int32).toInt = 0 by decide) (fun c76 => absurd c76 (by decide)) (fun c76 => ?_)
              refine v_iload C 5 dX5_pairFits_134 rfl ?_
              refine b_if_eq C 143 dX5_pairFits_136 (by decide) (show (0 : Int32).toInt = 0 by decide) (fun c77 => ?_) (fun c77 => absurd c77 (by decide))
              refine v_iconst (v := 0) C dX5_pairFits_143 (by decide) ?_
              exact v_ret C dX5_pairFits_144 rfl rfl ⟨Or.inr rfl, ⟨_, _, hEb, (fun _ _ => rfl), (show 0 ≤ Int32.toInt (ip 5) by omega), (show Int32.toInt (ip 5) ≤ 8 by omega), hEb5, fun j h0 h5 => rfl⟩⟩
            · refine v_iload_n C 3 dX5_pairFits_71 rfl rfl ?_
              refine v_iconst (v := 3) C dX5_pairFits_72 (by decide) ?_
              refine b_icmp_ne C 89 dX5_pairFits_73 (by decide) (rfl : Int32.toInt y = _) (show (3 : Int32).toInt = 3 by decide) (fun c78 => ?_) (fun c78 => ?_)
              · refine v_iconst (v := 0) C dX5_pairFits_89 (by decide) ?_
                refine v_istore (lv' := [(0, .ref (ad b)), (1, .int op), (2, .int x), (3, .int y), (4, .int 0), (5, .int 0)]) C [1, 2, 3, 4, 5, 0] dX5_pairFits_90 (by decide) rfl ?_
                refine v_iload C 4 dX5_pairFits_92 rfl ?_
                refine b_if_eq C 109 dX5_pairFits_94 (by decide) (show (0 : Int32).toInt = 0 by decide) (fun c79 => ?_) (fun c79 => absurd c79 (by decide))
                refine v_iload C 4 dX5_pairFits_109 rfl ?_
                refine b_if_ne C 119 dX5_pairFits_111 (by decide) (show (0 : Int32).toInt = 0 by decide) (fun c80 => absurd c80 (by decide)) (fun c80 => ?_)
                refine v_iload C 5 dX5_pairFits_114 rfl ?_
                refine b_if_eq C 129 dX5_pairFits_116 (by decide) (show (0 : Int32).toInt = 0 by decide) (fun c81 => ?_) (fun c81 => absurd c81 (by decide))
                refine v_iload C 4 dX5_pairFits_129 rfl ?_
                refine b_if_ne C 139 dX5_pairFits_131 (by decide) (show (0 : Int32).toInt = 0 by decide) (fun c82 => absurd c82 (by decide)) (fun c82 => ?_)
                refine v_iload C 5 dX5_pairFits_134 rfl ?_
                refine b_if_eq C 143 dX5_pairFits_136 (by decide) (show (0 : Int32).toInt = 0 by decide) (fun c83 => ?_) (fun c83 => absurd c83 (by decide))
                refine v_iconst (v := 0) C dX5_pairFits_143 (by decide) ?_
                exact v_ret C dX5_pairFits_144 rfl rfl ⟨Or.inr rfl, ⟨_, _, hEb, (fun _ _ => rfl), (show 0 ≤ Int32.toInt (ip 5) by omega), (show Int32.toInt (ip 5) ≤ 8 by omega), hEb5, fun j h0 h5 => rfl⟩⟩
              · refine v_iload_n C 2 dX5_pairFits_76 rfl rfl ?_
                refine b_if_eq C 85 dX5_pairFits_77 (by decide) (rfl : Int32.toInt x = _) (fun c84 => ?_) (fun c84 => ?_)
                · refine v_iconst (v := 1) C dX5_pairFits_85 (by decide) ?_
                  refine v_goto C 90 dX5_pairFits_86 (by decide) ?_
                  refine v_istore (lv' := [(0, .ref (ad b)), (1, .int op), (2, .int x), (3, .int y), (4, .int 0), (5, .int 1)]) C [1, 2, 3, 4, 5, 0] dX5_pairFits_90 (by decide) rfl ?_
                  refine v_iload C 4 dX5_pairFits_92 rfl ?_
                  refine b_if_eq C 109 dX5_pairFits_94 (by decide) (show (0 : Int32).toInt = 0 by decide) (fun c85 => ?_) (fun c85 => absurd c85 (by decide))
                  refine v_iload C 4 dX5_pairFits_109 rfl ?_
                  refine b_if_ne C 119 dX5_pairFits_111 (by decide) (show (0 : Int32).toInt = 0 by decide) (fun c86 => absurd c86 (by decide)) (fun c86 => ?_)
                  refine v_iload C 5 dX5_pairFits_114 rfl ?_
                  refine b_if_eq C 129 dX5_pairFits_116 (by decide) (show (1 : Int32).toInt = 1 by decide) (fun c87 => absurd c87 (by decide)) (fun c87 => ?_)
                  refine v_aload_n C 0 dX5_pairFits_119 rfl rfl ?_
                  refine v_dup C dX5_pairFits_120 rfl ?_
                  refine v_geti (v := ip 5) C b dX5_pairFits_121 fX5_38 (by omega) hEb rfl rfl ?_
                  refine v_iconst (v := 1) C dX5_pairFits_124 (by decide) ?_
                  refine v_isub C dX5_pairFits_125 ?_
                  refine v_top (fun x88 ex88 => ?_)
                  have hx88 : x88.toInt = ((ip 5).toInt - 1) := by rw [ex88]; exact ti_sub (rfl : Int32.toInt (ip 5) = _) (show (1 : Int32).toInt = 1 by decide) (by omega) (by omega)
                  refine v_puti C b dX5_pairFits_126 fX5_38 (by omega) hEb rfl rfl rfl rfl (fun E89 hE89_b oE89 => ?_)
                  have hE89_b5 := (oE89 (b + 5) (by omega)).trans hEb5
                  refine v_iload C 4 dX5_pairFits_129 rfl ?_
                  refine b_if_ne C 139 dX5_pairFits_131 (by decide) (show (0 : Int32).toInt = 0 by decide) (fun c90 => absurd c90 (by decide)) (fun c90 => ?_)
                  refine v_iload C 5 dX5_pairFits_134 rfl ?_
                  refine b_if_eq C 143 dX5_pairFits_136 (by decide) (show (1 : Int32).toInt = 1 by decide) (fun c91 => absurd c91 (by decide)) (fun c91 => ?_)
                  refine v_iconst (v := 1) C dX5_pairFits_139 (by decide) ?_
                  refine v_goto C 144 dX5_pairFits_140 (by decide) ?_
                  exact v_ret C dX5_pairFits_144 rfl rfl ⟨Or.inl rfl, ⟨_, _, hE89_b, (fun k hk => (if_neg hk : va_up _ 5 _ k = _).trans ((fun _ _ => rfl) k hk)), (show 0 ≤ Int32.toInt x88 by omega), (show Int32.toInt x88 ≤ 8 by omega), hE89_b5, fun j h0 h5 => (oE89 j h0)⟩⟩
                · refine v_iload_n C 2 dX5_pairFits_80 rfl rfl ?_
                  refine v_iconst (v := 1) C dX5_pairFits_81 (by decide) ?_
                  refine b_icmp_ne C 89 dX5_pairFits_82 (by decide) (rfl : Int32.toInt x = _) (show (1 : Int32).toInt = 1 by decide) (fun c92 => ?_) (fun c92 => ?_)
                  · refine v_iconst (v := 0) C dX5_pairFits_89 (by decide) ?_
                    refine v_istore (lv' := [(0, .ref (ad b)), (1, .int op), (2, .int x), (3, .int y), (4, .int 0), (5, .int 0)]) C [1, 2, 3, 4, 5, 0] dX5_pairFits_90 (by decide) rfl ?_
                    refine v_iload C 4 dX5_pairFits_92 rfl ?_
                    refine b_if_eq C 109 dX5_pairFits_94 (by decide) (show (0 : Int32).toInt = 0 by decide) (fun c93 => ?_) (fun c93 => absurd c93 (by decide))
                    refine v_iload C 4 dX5_pairFits_109 rfl ?_
                    refine b_if_ne C 119 dX5_pairFits_111 (by decide) (show (0 : Int32).toInt = 0 by decide) (fun c94 => absurd c94 (by decide)) (fun c94 => ?_)
                    refine v_iload C 5 dX5_pairFits_114 rfl ?_
                    refine b_if_eq C 129 dX5_pairFits_116 (by decide) (show (0 : Int32).toInt = 0 by decide) (fun c95 => ?_) (fun c95 => absurd c95 (by decide))
                    refine v_iload C 4 dX5_pairFits_129 rfl ?_
                    refine b_if_ne C 139 dX5_pairFits_131 (by decide) (show (0 : Int32).toInt = 0 by decide) (fun c96 => absurd c96 (by decide)) (fun c96 => ?_)
                    refine v_iload C 5 dX5_pairFits_134 rfl ?_
                    refine b_if_eq C 143 dX5_pairFits_136 (by decide) (show (0 : Int32).toInt = 0 by decide) (fun c97 => ?_) (fun c97 => absurd c97 (by decide))
                    refine v_iconst (v := 0) C dX5_pairFits_143 (by decide) ?_
                    exact v_ret C dX5_pairFits_144 rfl rfl ⟨Or.inr rfl, ⟨_, _, hEb, (fun _ _ => rfl), (show 0 ≤ Int32.toInt (ip 5) by omega), (show Int32.toInt (ip 5) ≤ 8 by omega), hEb5, fun j h0 h5 => rfl⟩⟩
                  · refine v_iconst (v := 1) C dX5_pairFits_85 (by decide) ?_
                    refine v_goto C 90 dX5_pairFits_86 (by decide) ?_
                    refine v_istore (lv' := [(0, .ref (ad b)), (1, .int op), (2, .int x), (3, .int y), (4, .int 0), (5, .int 1)]) C [1, 2, 3, 4, 5, 0] dX5_pairFits_90 (by decide) rfl ?_
                    refine v_iload C 4 dX5_pairFits_92 rfl ?_
                    refine b_if_eq C 109 dX5_pairFits_94 (by decide) (show (0 : Int32).toInt = 0 by decide) (fun c98 => ?_) (fun c98 => absurd c98 (by decide))
                    refine v_iload C 4 dX5_pairFits_109 rfl ?_
                    refine b_if_ne C 119 dX5_pairFits_111 (by decide) (show (0 : Int32).toInt = 0 by decide) (fun c99 => absurd c99 (by decide)) (fun c99 => ?_)
                    refine v_iload C 5 dX5_pairFits_114 rfl ?_
                    refine b_if_eq C 129 dX5_pairFits_116 (by decide) (show (1 : Int32).toInt = 1 by decide) (fun c100 => absurd c100 (by decide)) (fun c100 => ?_)
                    refine v_aload_n C 0 dX5_pairFits_119 rfl rfl ?_
                    refine v_dup C dX5_pairFits_120 rfl ?_
                    refine v_geti (v := ip 5) C b dX5_pairFits_121 fX5_38 (by omega) hEb rfl rfl ?_
                    refine v_iconst (v := 1) C dX5_pairFits_124 (by decide) ?_
                    refine v_isub C dX5_pairFits_125 ?_
                    refine v_top (fun x101 ex101 => ?_)
                    have hx101 : x101.toInt = ((ip 5).toInt - 1) := by rw [ex101]; exact ti_sub (rfl : Int32.toInt (ip 5) = _) (show (1 : Int32).toInt = 1 by decide) (by omega) (by omega)
                    refine v_puti C b dX5_pairFits_126 fX5_38 (by omega) hEb rfl rfl rfl rfl (fun E102 hE102_b oE102 => ?_)
                    have hE102_b5 := (oE102 (b + 5) (by omega)).trans hEb5
                    refine v_iload C 4 dX5_pairFits_129 rfl ?_
                    refine b_if_ne C 139 dX5_pairFits_131 (by decide) (show (0 : Int32).toInt = 0 by decide) (fun c103 => absurd c103 (by decide)) (fun c103 => ?_)
                    refine v_iload C 5 dX5_pairFits_134 rfl ?_
                    refine b_if_eq C 143 dX5_pairFits_136 (by decide) (show (1 : Int32).toInt = 1 by decide) (fun c104 => absurd c104 (by decide)) (fun c104 => ?_)
                    refine v_iconst (v := 1) C dX5_pairFits_139 (by decide) ?_
                    refine v_goto C 144 dX5_pairFits_140 (by decide) ?_
                    exact v_ret C dX5_pairFits_144 rfl rfl ⟨Or.inl rfl, ⟨_, _, hE102_b, (fun k hk => (if_neg hk : va_up _ 5 _ k = _).trans ((fun _ _ => rfl) k hk)), (show 0 ≤ Int32.toInt x101 by omega), (show Int32.toInt x101 ≤ 8 by omega), hE102_b5, fun j h0 h5 => (oE102 j h0)⟩⟩
          · refine v_iconst (v := 1) C dX5_pairFits_58 (by decide) ?_
            refine v_goto C 63 dX5_pairFits_59 (by decide) ?_
            refine v_istore (lv' := [(0, .ref (ad b)), (1, .int op), (2, .int x), (3, .int y), (4, .int 1)]) C [1, 2, 3, 4, 0] dX5_pairFits_63 (by decide) rfl ?_
            refine v_iload_n C 1 dX5_pairFits_65 rfl rfl ?_
            refine v_bipush (v := 9) C dX5_pairFits_66 (by decide) ?_
            refine b_icmp_ne C 89 dX5_pairFits_68 (by decide) (rfl : Int32.toInt op = _) (show (9 : Int32).toInt = 9 by decide) (fun c105 => ?_) (fun c105 => ?_)
            · refine v_iconst (v := 0) C dX5_pairFits_89 (by decide) ?_
              refine v_istore (lv' := [(0, .ref (ad b)), (1, .int op), (2, .int x), (3, .int y), (4, .int 1), (5, .int 0)]) C [1, 2, 3, 4, 5, 0] dX5_pairFits_90 (by decide) rfl ?_
              refine v_iload C 4 dX5_pairFits_92 rfl ?_
              refine b_if_eq C 109 dX5_pairFits_94 (by decide) (show (1 : Int32).toInt = 1 by decide) (fun c106 => absurd c106 (by decide)) (fun c106 => ?_)
              refine v_aload_n C 0 dX5_pairFits_97 rfl rfl ?_
              refine v_getr C b dX5_pairFits_98 fX5_24 (by omega) hEb rfl rfl ?_
              refine v_aload_n C 0 dX5_pairFits_101 rfl rfl ?_
              refine v_geti (v := ip 5) C b dX5_pairFits_102 fX5_38 (by omega) hEb rfl rfl ?_
              refine v_iconst (v := 2) C dX5_pairFits_105 (by decide) ?_
              refine v_isub C dX5_pairFits_106 ?_
              refine v_top (fun x107 ex107 => ?_)
              have hx107 : x107.toInt = ((ip 5).toInt - 2) := by rw [ex107]; exact ti_sub (rfl : Int32.toInt (ip 5) = _) (show (2 : Int32).toInt = 2 by decide) (by omega) (by omega)
              refine v_iconst (v := 3) C dX5_pairFits_107 (by decide) ?_
              refine v_ast C (b + 5) dX5_pairFits_108 (by omega) hEb5 (ti_in hx107 (by omega) (by omega)) (fun E108 hE108_b5 oE108 => ?_)
              rw [ti_cl hx107] at hE108_b5
              have hE108_b := (oE108 b (by omega)).trans hEb
              refine v_iload C 4 dX5_pairFits_109 rfl ?_
              refine b_if_ne C 119 dX5_pairFits_111 (by decide) (show (1 : Int32).toInt = 1 by decide) (fun c109 => ?_) (fun c109 => absurd c109 (by decide))
              refine v_aload_n C 0 dX5_pairFits_119 rfl rfl ?_
              refine v_dup C dX5_pairFits_120 rfl ?_
              refine v_geti (v := ip 5) C b dX5_pairFits_121 fX5_38 (by omega) hE108_b rfl rfl ?_
              refine v_iconst (v := 1) C dX5_pairFits_124 (by decide) ?_
              refine v_isub C dX5_pairFits_125 ?_
              refine v_top (fun x110 ex110 => ?_)
              have hx110 : x110.toInt = ((ip 5).toInt - 1) := by rw [ex110]; exact ti_sub (rfl : Int32.toInt (ip 5) = _) (show (1 : Int32).toInt = 1 by decide) (by omega) (by omega)
              refine v_puti C b dX5_pairFits_126 fX5_38 (by omega) hE108_b rfl rfl rfl rfl (fun E111 hE111_b oE111 => ?_)
              have hE111_b5 := (oE111 (b + 5) (by omega)).trans hE108_b5
              refine v_iload C 4 dX5_pairFits_129 rfl ?_
              refine b_if_ne C 139 dX5_pairFits_131 (by decide) (show (1 : Int32).toInt = 1 by decide) (fun c112 => ?_) (fun c112 => absurd c112 (by decide))
              refine v_iconst (v := 1) C dX5_pairFits_139 (by decide) ?_
              refine v_goto C 144 dX5_pairFits_140 (by decide) ?_
              exact v_ret C dX5_pairFits_144 rfl rfl ⟨Or.inl rfl, ⟨_, _, hE111_b, (fun k hk => (if_neg hk : va_up _ 5 _ k = _).trans ((fun _ _ => rfl) k hk)), (show 0 ≤ Int32.toInt x110 by omega), (show Int32.toInt x110 ≤ 8 by omega), hE111_b5, fun j h0 h5 => ((oE111 j h0).trans (oE108 j h5))⟩⟩
            · refine v_iload_n C 3 dX5_pairFits_71 rfl rfl ?_
              refine v_iconst (v := 3) C dX5_pairFits_72 (by decide) ?_
              refine b_icmp_ne C 89 dX5_pairFits_73 (by decide) (rfl : Int32.toInt y = _) (show (3 : Int32).toInt = 3 by decide) (fun c113 => ?_) (fun c113 => ?_)
              · refine v_iconst (v := 0) C dX5_pairFits_89 (by decide) ?_
                refine v_istore (lv' := [(0, .ref (ad b)), (1, .int op), (2, .int x), (3, .int y), (4, .int 1), (5, .int 0)]) C [1, 2, 3, 4, 5, 0] dX5_pairFits_90 (by decide) rfl ?_
                refine v_iload C 4 dX5_pairFits_92 rfl ?_
                refine b_if_eq C 109 dX5_pairFits_94 (by decide) (show (1 : Int32).toInt = 1 by decide) (fun c114 => absurd c114 (by decide)) (fun c114 => ?_)
                refine v_aload_n C 0 dX5_pairFits_97 rfl rfl ?_
                refine v_getr C b dX5_pairFits_98 fX5_24 (by omega) hEb rfl rfl ?_
                refine v_aload_n C 0 dX5_pairFits_101 rfl rfl ?_
                refine v_geti (v := ip 5) C b dX5_pairFits_102 fX5_38 (by omega) hEb rfl rfl ?_
                refine v_iconst (v := 2) C dX5_pairFits_105 (by decide) ?_
                refine v_isub C dX5_pairFits_106 ?_
                refine v_top (fun x115 ex115 => ?_)
                have hx115 : x115.toInt = ((ip 5).toInt - 2) := by rw [ex115]; exact ti_sub (rfl : Int32.toInt (ip 5) = _) (show (2 : Int32).toInt = 2 by decide) (by omega) (by omega)
                refine v_iconst (v := 3) C dX5_pairFits_107 (by decide) ?_
                refine v_ast C (b + 5) dX5_pairFits_108 (by omega) hEb5 (ti_in hx115 (by omega) (by omega)) (fun E116 hE116_b5 oE116 => ?_)
                rw [ti_cl hx115] at hE116_b5
                have hE116_b := (oE116 b (by omega)).trans hEb
                refine v_iload C 4 dX5_pairFits_109 rfl ?_
                refine b_if_ne C 119 dX5_pairFits_111 (by decide) (show (1 : Int32).toInt = 1 by decide) (fun c117 => ?_) (fun c117 => absurd c117 (by decide))
                refine v_aload_n C 0 dX5_pairFits_119 rfl rfl ?_
                refine v_dup C dX5_pairFits_120 rfl ?_
                refine v_geti (v := ip 5) C b dX5_pairFits_121 fX5_38 (by omega) hE116_b rfl rfl ?_
                refine v_iconst (v := 1) C dX5_pairFits_124 (by decide) ?_
                refine v_isub C dX5_pairFits_125 ?_
                refine v_top (fun x118 ex118 => ?_)
                have hx118 : x118.toInt = ((ip 5).toInt - 1) := by rw [ex118]; exact ti_sub (rfl : Int32.toInt (ip 5) = _) (show (1 : Int32).toInt = 1 by decide) (by omega) (by omega)
                refine v_puti C b dX5_pairFits_126 fX5_38 (by omega) hE116_b rfl rfl rfl rfl (fun E119 hE119_b oE119 => ?_)
                have hE119_b5 := (oE119 (b + 5) (by omega)).trans hE116_b5
                refine v_iload C 4 dX5_pairFits_129 rfl ?_
                refine b_if_ne C 139 dX5_pairFits_131 (by decide) (show (1 : Int32).toInt = 1 by decide) (fun c120 => ?_) (fun c120 => absurd c120 (by decide))
                refine v_iconst (v := 1) C dX5_pairFits_139 (by decide) ?_
                refine v_goto C 144 dX5_pairFits_140 (by decide) ?_
                exact v_ret C dX5_pairFits_144 rfl rfl ⟨Or.inl rfl, ⟨_, _, hE119_b, (fun k hk => (if_neg hk : va_up _ 5 _ k = _).trans ((fun _ _ => rfl) k hk)), (show 0 ≤ Int32.toInt x118 by omega), (show Int32.toInt x118 ≤ 8 by omega), hE119_b5, fun j h0 h5 => ((oE119 j h0).trans (oE116 j h5))⟩⟩
              · refine v_iload_n C 2 dX5_pairFits_76 rfl rfl ?_
                refine b_if_eq C 85 dX5_pairFits_77 (by decide) (rfl : Int32.toInt x = _) (fun c121 => ?_) (fun c121 => ?_)
                · refine v_iconst (v := 1) C dX5_pairFits_85 (by decide) ?_
                  refine v_goto C 90 dX5_pairFits_86 (by decide) ?_
                  refine v_istore (lv' := [(0, .ref (ad b)), (1, .int op), (2, .int x), (3, .int y), (4, .int 1), (5, .int 1)]) C [1, 2, 3, 4, 5, 0] dX5_pairFits_90 (by decide) rfl ?_
                  refine v_iload C 4 dX5_pairFits_92 rfl ?_
                  refine b_if_eq C 109 dX5_pairFits_94 (by decide) (show (1 : Int32).toInt = 1 by decide) (fun c122 => absurd c122 (by decide)) (fun c122 => ?_)
                  refine v_aload_n C 0 dX5_pairFits_97 rfl rfl ?_
                  refine v_getr C b dX5_pairFits_98 fX5_24 (by omega) hEb rfl rfl ?_
                  refine v_aload_n C 0 dX5_pairFits_101 rfl rfl ?_
                  refine v_geti (v := ip 5) C b dX5_pairFits_102 fX5_38 (by omega) hEb rfl rfl ?_
                  refine v_iconst (v := 2) C dX5_pairFits_105 (by decide) ?_
                  refine v_isub C dX5_pairFits_106 ?_
                  refine v_top (fun x123 ex123 => ?_)
                  have hx123 : x123.toInt = ((ip 5).toInt - 2) := by rw [ex123]; exact ti_sub (rfl : Int32.toInt (ip 5) = _) (show (2 : Int32).toInt = 2 by decide) (by omega) (by omega)
                  refine v_iconst (v := 3) C dX5_pairFits_107 (by decide) ?_
                  refine v_ast C (b + 5) dX5_pairFits_108 (by omega) hEb5 (ti_in hx123 (by omega) (by omega)) (fun E124 hE124_b5 oE124 => ?_)
                  rw [ti_cl hx123] at hE124_b5
                  have hE124_b := (oE124 b (by omega)).trans hEb
                  refine v_iload C 4 dX5_pairFits_109 rfl ?_
                  refine b_if_ne C 119 dX5_pairFits_111 (by decide) (show (1 : Int32).toInt = 1 by decide) (fun c125 => ?_) (fun c125 => absurd c125 (by decide))
                  refine v_aload_n C 0 dX5_pairFits_119 rfl rfl ?_
                  refine v_dup C dX5_pairFits_120 rfl ?_
                  refine v_geti (v := ip 5) C b dX5_pairFits_121 fX5_38 (by omega) hE124_b rfl rfl ?_
                  refine v_iconst (v := 1) C dX5_pairFits_124 (by decide) ?_
                  refine v_isub C dX5_pairFits_125 ?_
                  refine v_top (fun x126 ex126 => ?_)
                  have hx126 : x126.toInt = ((ip 5).toInt - 1) := by rw [ex126]; exact ti_sub (rfl : Int32.toInt (ip 5) = _) (show (1 : Int32).toInt = 1 by decide) (by omega) (by omega)
                  refine v_puti C b dX5_pairFits_126 fX5_38 (by omega) hE124_b rfl rfl rfl rfl (fun E127 hE127_b oE127 => ?_)
                  have hE127_b5 := (oE127 (b + 5) (by omega)).trans hE124_b5
                  refine v_iload C 4 dX5_pairFits_129 rfl ?_
                  refine b_if_ne C 139 dX5_pairFits_131 (by decide) (show (1 : Int32).toInt = 1 by decide) (fun c128 => ?_) (fun c128 => absurd c128 (by decide))
                  refine v_iconst (v := 1) C dX5_pairFits_139 (by decide) ?_
                  refine v_goto C 144 dX5_pairFits_140 (by decide) ?_
                  exact v_ret C dX5_pairFits_144 rfl rfl ⟨Or.inl rfl, ⟨_, _, hE127_b, (fun k hk => (if_neg hk : va_up _ 5 _ k = _).trans ((fun _ _ => rfl) k hk)), (show 0 ≤ Int32.toInt x126 by omega), (show Int32.toInt x126 ≤ 8 by omega), hE127_b5, fun j h0 h5 => ((oE127 j h0).trans (oE124 j h5))⟩⟩
                · refine v_iload_n C 2 dX5_pairFits_80 rfl rfl ?_
                  refine v_iconst (v := 1) C dX5_pairFits_81 (by decide) ?_
                  refine b_icmp_ne C 89 dX5_pairFits_82 (by decide) (rfl : Int32.toInt x = _) (show (1 : Int32).toInt = 1 by decide) (fun c129 => ?_) (fun c129 => ?_)
                  · refine v_iconst (v := 0) C dX5_pairFits_89 (by decide) ?_
                    refine v_istore (lv' := [(0, .ref (ad b)), (1, .int op), (2, .int x), (3, .int y), (4, .int 1), (5, .int 0)]) C [1, 2, 3, 4, 5, 0] dX5_pairFits_90 (by decide) rfl ?_
                    refine v_iload C 4 dX5_pairFits_92 rfl ?_
                    refine b_if_eq C 109 dX5_pairFits_94 (by decide) (show (1 : Int32).toInt = 1 by decide) (fun c130 => absurd c130 (by decide)) (fun c130 => ?_)
                    refine v_aload_n C 0 dX5_pairFits_97 rfl rfl ?_
                    refine v_getr C b dX5_pairFits_98 fX5_24 (by omega) hEb rfl rfl ?_
                    refine v_aload_n C 0 dX5_pairFits_101 rfl rfl ?_
                    refine v_geti (v := ip 5) C b dX5_pairFits_102 fX5_38 (by omega) hEb rfl rfl ?_
                    refine v_iconst (v := 2) C dX5_pairFits_105 (by decide) ?_
                    refine v_isub C dX5_pairFits_106 ?_
                    refine v_top (fun x131 ex131 => ?_)
                    have hx131 : x131.toInt = ((ip 5).toInt - 2) := by rw [ex131]; exact ti_sub (rfl : Int32.toInt (ip 5) = _) (show (2 : Int32).toInt = 2 by decide) (by omega) (by omega)
                    refine v_iconst (v := 3) C dX5_pairFits_107 (by decide) ?_
                    refine v_ast C (b + 5) dX5_pairFits_108 (by omega) hEb5 (ti_in hx131 (by omega) (by omega)) (fun E132 hE132_b5 oE132 => ?_)
                    rw [ti_cl hx131] at hE132_b5
                    have hE132_b := (oE132 b (by omega)).trans hEb
                    refine v_iload C 4 dX5_pairFits_109 rfl ?_
                    refine b_if_ne C 119 dX5_pairFits_111 (by decide) (show (1 : Int32).toInt = 1 by decide) (fun c133 => ?_) (fun c133 => absurd c133 (by decide))
                    refine v_aload_n C 0 dX5_pairFits_119 rfl rfl ?_
                    refine v_dup C dX5_pairFits_120 rfl ?_
                    refine v_geti (v := ip 5) C b dX5_pairFits_121 fX5_38 (by omega) hE132_b rfl rfl ?_
                    refine v_iconst (v := 1) C dX5_pairFits_124 (by decide) ?_
                    refine v_isub C dX5_pairFits_125 ?_
                    refine v_top (fun x134 ex134 => ?_)
                    have hx134 : x134.toInt = ((ip 5).toInt - 1) := by rw [ex134]; exact ti_sub (rfl : Int32.toInt (ip 5) = _) (show (1 : Int32).toInt = 1 by decide) (by omega) (by omega)
                    refine v_puti C b dX5_pairFits_126 fX5_38 (by omega) hE132_b rfl rfl rfl rfl (fun E135 hE135_b oE135 => ?_)
                    have hE135_b5 := (oE135 (b + 5) (by omega)).trans hE132_b5
                    refine v_iload C 4 dX5_pairFits_129 rfl ?_
                    refine b_if_ne C 139 dX5_pairFits_131 (by decide) (show (1 : Int32).toInt = 1 by decide) (fun c136 => ?_) (fun c136 => absurd c136 (by decide))
                    refine v_iconst (v := 1) C dX5_pairFits_139 (by decide) ?_
                    refine v_goto C 144 dX5_pairFits_140 (by decide) ?_
                    exact v_ret C dX5_pairFits_144 rfl rfl ⟨Or.inl rfl, ⟨_, _, hE135_b, (fun k hk => (if_neg hk : va_up _ 5 _ k = _).trans ((fun _ _ => rfl) k hk)), (show 0 ≤ Int32.toInt x134 by omega), (show Int32.toInt x134 ≤ 8 by omega), hE135_b5, fun j h0 h5 => ((oE135 j h0).trans (oE132 j h5))⟩⟩
                  · refine v_iconst (v := 1) C dX5_pairFits_85 (by decide) ?_
                    refine v_goto C 90 dX5_pairFits_86 (by decide) ?_
                    refine v_istore (lv' := [(0, .ref (ad b)), (1, .int op), (2, .int x), (3, .int y), (4, .int 1), (5, .int 1)]) C [1, 2, 3, 4, 5, 0] dX5_pairFits_90 (by decide) rfl ?_
                    refine v_iload C 4 dX5_pairFits_92 rfl ?_
                    refine b_if_eq C 109 dX5_pairFits_94 (by decide) (show (1 : Int32).toInt = 1 by decide) (fun c137 => absurd c137 (by decide)) (fun c137 => ?_)
                    refine v_aload_n C 0 dX5_pairFits_97 rfl rfl ?_
                    refine v_getr C b dX5_pairFits_98 fX5_24 (by omega) hEb rfl rfl ?_
                    refine v_aload_n C 0 dX5_pairFits_101 rfl rfl ?_
                    refine v_geti (v := ip 5) C b dX5_pairFits_102 fX5_38 (by omega) hEb rfl rfl ?_
                    refine v_iconst (v := 2) C dX5_pairFits_105 (by decide) ?_
                    refine v_isub C dX5_pairFits_106 ?_
                    refine v_top (fun x138 ex138 => ?_)
                    have hx138 : x138.toInt = ((ip 5).toInt - 2) := by rw [ex138]; exact ti_sub (rfl : Int32.toInt (ip 5) = _) (show (2 : Int32).toInt = 2 by decide) (by omega) (by omega)
                    refine v_iconst (v := 3) C dX5_pairFits_107 (by decide) ?_
                    refine v_ast C (b + 5) dX5_pairFits_108 (by omega) hEb5 (ti_in hx138 (by omega) (by omega)) (fun E139 hE139_b5 oE139 => ?_)
                    rw [ti_cl hx138] at hE139_b5
                    have hE139_b := (oE139 b (by omega)).trans hEb
                    refine v_iload C 4 dX5_pairFits_109 rfl ?_
                    refine b_if_ne C 119 dX5_pairFits_111 (by decide) (show (1 : Int32).toInt = 1 by decide) (fun c140 => ?_) (fun c140 => absurd c140 (by decide))
                    refine v_aload_n C 0 dX5_pairFits_119 rfl rfl ?_
                    refine v_dup C dX5_pairFits_120 rfl ?_
                    refine v_geti (v := ip 5) C b dX5_pairFits_121 fX5_38 (by omega) hE139_b rfl rfl ?_
                    refine v_iconst (v := 1) C dX5_pairFits_124 (by decide) ?_
                    refine v_isub C dX5_pairFits_125 ?_
                    refine v_top (fun x141 ex141 => ?_)
                    have hx141 : x141.toInt = ((ip 5).toInt - 1) := by rw [ex141]; exact ti_sub (rfl : Int32.toInt (ip 5) = _) (show (1 : Int32).toInt = 1 by decide) (by omega) (by omega)
                    refine v_puti C b dX5_pairFits_126 fX5_38 (by omega) hE139_b rfl rfl rfl rfl (fun E142 hE142_b oE142 => ?_)
                    have hE142_b5 := (oE142 (b + 5) (by omega)).trans hE139_b5
                    refine v_iload C 4 dX5_pairFits_129 rfl ?_
                    refine b_if_ne C 139 dX5_pairFits_131 (by decide) (show (1 : Int32).toInt = 1 by decide) (fun c143 => ?_) (fun c143 => absurd c143 (by decide))
                    refine v_iconst (v := 1) C dX5_pairFits_139 (by decide) ?_
                    refine v_goto C 144 dX5_pairFits_140 (by decide) ?_
                    exact v_ret C dX5_pairFits_144 rfl rfl ⟨Or.inl rfl, ⟨_, _, hE142_b, (fun k hk => (if_neg hk : va_up _ 5 _ k = _).trans ((fun _ _ => rfl) k hk)), (show 0 ≤ Int32.toInt x141 by omega), (show Int32.toInt x141 ≤ 8 by omega), hE142_b5, fun j h0 h5 => ((oE142 j h0).trans (oE139 j h5))⟩⟩
    · refine v_aload_n C 0 dX5_pairFits_16 rfl rfl ?_
      refine v_getr C b dX5_pairFits_17 fX5_24 (by omega) hEb rfl rfl ?_
      refine v_aload_n C 0 dX5_pairFits_20 rfl rfl ?_
      refine v_geti (v := ip 5) C b dX5_pairFits_21 fX5_38 (by omega) hEb rfl rfl ?_
      refine v_iconst (v := 2) C dX5_pairFits_24 (by decide) ?_
      refine v_isub C dX5_pairFits_25 ?_
      refine v_top (fun x144 ex144 => ?_)
      have hx144 : x144.toInt = ((ip 5).toInt - 2) := by rw [ex144]; exact ti_sub (rfl : Int32.toInt (ip 5) = _) (show (2 : Int32).toInt = 2 by decide) (by omega) (by omega)
      refine v_iload_n C 3 dX5_pairFits_26 rfl rfl ?_
      refine v_ast C (b + 5) dX5_pairFits_27 (by omega) hEb5 (ti_in hx144 (by omega) (by omega)) (fun E145 hE145_b5 oE145 => ?_)
      rw [ti_cl hx144] at hE145_b5
      have hE145_b := (oE145 b (by omega)).trans hEb
      refine v_aload_n C 0 dX5_pairFits_28 rfl rfl ?_
      refine v_getr C b dX5_pairFits_29 fX5_24 (by omega) hE145_b rfl rfl ?_
      refine v_aload_n C 0 dX5_pairFits_32 rfl rfl ?_
      refine v_geti (v := ip 5) C b dX5_pairFits_33 fX5_38 (by omega) hE145_b rfl rfl ?_
      refine v_iconst (v := 1) C dX5_pairFits_36 (by decide) ?_
      refine v_isub C dX5_pairFits_37 ?_
      refine v_top (fun x146 ex146 => ?_)
      have hx146 : x146.toInt = ((ip 5).toInt - 1) := by rw [ex146]; exact ti_sub (rfl : Int32.toInt (ip 5) = _) (show (1 : Int32).toInt = 1 by decide) (by omega) (by omega)
      refine v_iload_n C 2 dX5_pairFits_38 rfl rfl ?_
      refine v_ast C (b + 5) dX5_pairFits_39 (by omega) hE145_b5 (ti_in hx146 (by omega) (by omega)) (fun E147 hE147_b5 oE147 => ?_)
      rw [ti_cl hx146] at hE147_b5
      have hE147_b := (oE147 b (by omega)).trans hE145_b
      refine v_iconst (v := 1) C dX5_pairFits_40 (by decide) ?_
      exact v_ret C dX5_pairFits_41 rfl rfl ⟨Or.inl rfl, ⟨_, _, hE147_b, (fun _ _ => rfl), (show 0 ≤ Int32.toInt (ip 5) by omega), (show Int32.toInt (ip 5) ≤ 8 by omega), hE147_b5, fun j h0 h5 => ((oE147 j h5).trans (oE145 j h5))⟩⟩
  · refine v_iconst (v := 0) C dX5_pairFits_8 (by decide) ?_
    exact v_ret C dX5_pairFits_9 rfl rfl ⟨Or.inr rfl, ⟨_, _, hEb, (fun _ _ => rfl), (show 0 ≤ Int32.toInt (ip 5) by omega), (show Int32.toInt (ip 5) ≤ 8 by omega), hEb5, fun j h0 h5 => rfl⟩⟩

set_option maxRecDepth 20000 in
theorem c_fits (l : Launch) (G : Gl) (n : Nat) (ad : Nat → Nat) (E : Nat → va_E) (b : Nat) (hb : b + 6 ≤ n) {ip kd : Nat → Int32} (hEb : E b = ob 5 (rP ad b) ip) (hEb5 : E (b + 5) = aI G 8 kd) (hh1 : 0 ≤ (ip 5).toInt) (hh2 : (ip 5).toInt ≤ 8) (op : Int32)  : CtI l G yX5_fits cX5_fits 3 .boolean 1 25 n ad E [.ref (ad b), .int op] (fun r E' => (r = 1 ∨ r = 0) ∧ FR G ad b E E' ip) := by
  refine CtI.of (by decide) (Nat.le_of_ble_eq_true rfl) (fun X A C => ?_)
  refine v_sub (lv' := [(0, .ref (ad b)), (1, .int op)]) [0, 1] rfl ?_
  refine v_aload_n C 0 dX5_fits_0 rfl rfl ?_
  refine v_geti (v := ip 5) C b dX5_fits_1 fX5_38 (by omega) hEb rfl rfl ?_
  refine b_if_le C 21 dX5_fits_4 (by decide) (rfl : Int32.toInt (ip 5) = _) (fun c1 => ?_) (fun c1 => ?_)
  · refine v_iconst (v := (-1)) C dX5_fits_21 (by decide) ?_
    refine v_istore_n (lv' := [(0, .ref (ad b)), (1, .int op), (2, .int (-1))]) C [1, 2, 0] dX5_fits_22 rfl (by decide) rfl ?_
    refine v_iload_n C 1 dX5_fits_23 rfl rfl ?_
    have q2v : Int32.toInt op = op.toInt := (rfl : Int32.toInt op = _)
    rcases (show op.toInt = 0 ∨ op.toInt = 1 ∨ op.toInt = 2 ∨ op.toInt = 3 ∨ op.toInt = 4 ∨ op.toInt = 5 ∨ op.toInt = 6 ∨ op.toInt = 7 ∨ op.toInt = 8 ∨ op.toInt = 9 ∨ op.toInt = 10 ∨ (op.toInt < 0 ∨ 10 < op.toInt) by omega) with q2 | q2 | q2 | q2 | q2 | q2 | q2 | q2 | q2 | q2 | q2 | q2
    · refine v_tableIn (off := 60) C 84 dX5_fits_24 (by omega) (by omega) (by rw [q2v, q2]; rfl) (by decide) ?_
      refine v_aload_n C 0 dX5_fits_84 rfl rfl ?_
      refine v_iconst (v := 0) C dX5_fits_85 (by decide) ?_
      refine v_cVi C dX5_fits_86 lX5_51 mX5_push b (by omega) hEb (by decide) rfl (c_push l G n ad _ b hb hEb hEb5 (by omega) (by omega) 0) ⟨by decide, by decide⟩ rfl (Nat.le_of_ble_eq_true rfl) ⟨Nat.zero_le _, Nat.zero_le _⟩ (fun r4 E3 hq5 => ?_)
      obtain ⟨hq5, ip6, kd6, hB6, hK6, hl6, hu6, hD6, hO6⟩ := hq5
      rcases hq5 with rfl | rfl
      · exact v_ret C dX5_fits_89 rfl rfl ⟨Or.inl rfl, ⟨_, _, hB6, (fun k hk => (hK6 k hk).trans ((fun _ _ => rfl) k hk)), (show 0 ≤ Int32.toInt (ip6 5) by omega), (show Int32.toInt (ip6 5) ≤ 8 by omega), hD6, fun j h0 h5 => (hO6 j h0 h5)⟩⟩
      · exact v_ret C dX5_fits_89 rfl rfl ⟨Or.inr rfl, ⟨_, _, hB6, (fun k hk => (hK6 k hk).trans ((fun _ _ => rfl) k hk)), (show 0 ≤ Int32.toInt (ip6 5) by omega), (show Int32.toInt (ip6 5) ≤ 8 by omega), hD6, fun j h0 h5 => (hO6 j h0 h5)⟩⟩
    · refine v_tableIn (off := 66) C 90 dX5_fits_24 (by omega) (by omega) (by rw [q2v, q2]; rfl) (by decide) ?_
      refine v_aload_n C 0 dX5_fits_90 rfl rfl ?_
      refine v_iconst (v := 0) C dX5_fits_91 (by decide) ?_
      refine v_iconst (v := 1) C dX5_fits_92 (by decide) ?_
      refine v_cVi C dX5_fits_93 lX5_54 mX5_become b (by omega) hEb (by decide) rfl (c_become l G n ad _ b hb hEb hEb5 (by omega) (by omega) 0 1) ⟨by decide, by decide⟩ rfl (Nat.le_of_ble_eq_true rfl) ⟨Nat.zero_le _, Nat.zero_le _⟩ (fun r8 E7 hq9 => ?_)
      obtain ⟨hq9, ip10, kd10, hB10, hK10, hl10, hu10, hD10, hO10⟩ := hq9
      rcases hq9 with rfl | rfl
      · exact v_ret C dX5_fits_96 rfl rfl ⟨Or.inl rfl, ⟨_, _, hB10, (fun k hk => (hK10 k hk).trans ((fun _ _ => rfl) k hk)), (show 0 ≤ Int32.toInt (ip10 5) by omega), (show Int32.toInt (ip10 5) ≤ 8 by omega), hD10, fun j h0 h5 => (hO10 j h0 h5)⟩⟩
      · exact v_ret C dX5_fits_96 rfl rfl ⟨Or.inr rfl, ⟨_, _, hB10, (fun k hk => (hK10 k hk).trans ((fun _ _ => rfl) k hk)), (show 0 ≤ Int32.toInt (ip10 5) by omega), (show Int32.toInt (ip10 5) ≤ 8 by omega), hD10, fun j h0 h5 => (hO10 j h0 h5)⟩⟩
    · refine v_tableIn (off := 73) C 97 dX5_fits_24 (by omega) (by omega) (by rw [q2v, q2]; rfl) (by decide) ?_
      refine v_aload_n C 0 dX5_fits_97 rfl rfl ?_
      refine v_iconst (v := 1) C dX5_fits_98 (by decide) ?_
      refine v_iconst (v := 2) C dX5_fits_99 (by decide) ?_
      refine v_cVi C dX5_fits_100 lX5_54 mX5_become b (by omega) hEb (by decide) rfl (c_become l G n ad _ b hb hEb hEb5 (by omega) (by omega) 1 2) ⟨by decide, by decide⟩ rfl (Nat.le_of_ble_eq_true rfl) ⟨Nat.zero_le _, Nat.zero_le _⟩ (fun r12 E11 hq13 => ?_)
      obtain ⟨hq13, ip14, kd14, hB14, hK14, hl14, hu14, hD14, hO14⟩ := hq13
      rcases hq13 with rfl | rfl
      · exact v_ret C dX5_fits_103 rfl rfl ⟨Or.inl rfl, ⟨_, _, hB14, (fun k hk => (hK14 k hk).trans ((fun _ _ => rfl) k hk)), (show 0 ≤ Int32.toInt (ip14 5) by omega), (show Int32.toInt (ip14 5) ≤ 8 by omega), hD14, fun j h0 h5 => (hO14 j h0 h5)⟩⟩
      · exact v_ret C dX5_fits_103 rfl rfl ⟨Or.inr rfl, ⟨_, _, hB14, (fun k hk => (hK14 k hk).trans ((fun _ _ => rfl) k hk)), (show 0 ≤ Int32.toInt (ip14 5) by omega), (show Int32.toInt (ip14 5) ≤ 8 by omega), hD14, fun j h0 h5 => (hO14 j h0 h5)⟩⟩
    · refine v_tableIn (off := 80) C 104 dX5_fits_24 (by omega) (by omega) (by rw [q2v, q2]; rfl) (by decide) ?_
      refine v_aload_n C 0 dX5_fits_104 rfl rfl ?_
      refine v_iconst (v := 2) C dX5_fits_105 (by decide) ?_
      refine v_iconst (v := 1) C dX5_fits_106 (by decide) ?_
      refine v_cVi C dX5_fits_107 lX5_54 mX5_become b (by omega) hEb (by decide) rfl (c_become l G n ad _ b hb hEb hEb5 (by omega) (by omega) 2 1) ⟨by decide, by decide⟩ rfl (Nat.le_of_ble_eq_true rfl) ⟨Nat.zero_le _, Nat.zero_le _⟩ (fun r16 E15 hq17 => ?_)
      obtain ⟨hq17, ip18, kd18, hB18, hK18, hl18, hu18, hD18, hO18⟩ := hq17
      rcases hq17 with rfl | rfl
      · exact v_ret C dX5_fits_110 rfl rfl ⟨Or.inl rfl, ⟨_, _, hB18, (fun k hk => (hK18 k hk).trans ((fun _ _ => rfl) k hk)), (show 0 ≤ Int32.toInt (ip18 5) by omega), (show Int32.toInt (ip18 5) ≤ 8 by omega), hD18, fun j h0 h5 => (hO18 j h0 h5)⟩⟩
      · exact v_ret C dX5_fits_110 rfl rfl ⟨Or.inr rfl, ⟨_, _, hB18, (fun k hk => (hK18 k hk).trans ((fun _ _ => rfl) k hk)), (show 0 ≤ Int32.toInt (ip18 5) by omega), (show Int32.toInt (ip18 5) ≤ 8 by omega), hD18, fun j h0 h5 => (hO18 j h0 h5)⟩⟩
    · refine v_tableIn (off := 87) C 111 dX5_fits_24 (by omega) (by omega) (by rw [q2v, q2]; rfl) (by decide) ?_
      refine v_aload_n C 0 dX5_fits_111 rfl rfl ?_
      refine v_iconst (v := 1) C dX5_fits_112 (by decide) ?_
      refine v_iconst (v := 0) C dX5_fits_113 (by decide) ?_
      refine v_cVi C dX5_fits_114 lX5_54 mX5_become b (by omega) hEb (by decide) rfl (c_become l G n ad _ b hb hEb hEb5 (by omega) (by omega) 1 0) ⟨by decide, by decide⟩ rfl (Nat.le_of_ble_eq_true rfl) ⟨Nat.zero_le _, Nat.zero_le _⟩ (fun r20 E19 hq21 => ?_)
      obtain ⟨hq21, ip22, kd22, hB22, hK22, hl22, hu22, hD22, hO22⟩ := hq21
      rcases hq21 with rfl | rfl
      · exact v_ret C dX5_fits_117 rfl rfl ⟨Or.inl rfl, ⟨_, _, hB22, (fun k hk => (hK22 k hk).trans ((fun _ _ => rfl) k hk)), (show 0 ≤ Int32.toInt (ip22 5) by omega), (show Int32.toInt (ip22 5) ≤ 8 by omega), hD22, fun j h0 h5 => (hO22 j h0 h5)⟩⟩
      · exact v_ret C dX5_fits_117 rfl rfl ⟨Or.inr rfl, ⟨_, _, hB22, (fun k hk => (hK22 k hk).trans ((fun _ _ => rfl) k hk)), (show 0 ≤ Int32.toInt (ip22 5) by omega), (show Int32.toInt (ip22 5) ≤ 8 by omega), hD22, fun j h0 h5 => (hO22 j h0 h5)⟩⟩
    · refine v_tableIn (off := 94) C 118 dX5_fits_24 (by omega) (by omega) (by rw [q2v, q2]; rfl) (by decide) ?_
      refine v_iload_n C 2 dX5_fits_118 rfl rfl ?_
      refine b_if_eq C 127 dX5_fits_119 (by decide) (show ((-1) : Int32).toInt = (-1) by decide) (fun c23 => absurd c23 (by decide)) (fun c23 => ?_)
      refine v_iload_n C 2 dX5_fits_122 rfl rfl ?_
      refine v_iconst (v := 1) C dX5_fits_123 (by decide) ?_
      refine b_icmp_ne C 131 dX5_fits_124 (by decide) (show ((-1) : Int32).toInt = (-1) by decide) (show (1 : Int32).toInt = 1 by decide) (fun c24 => ?_) (fun c24 => absurd c24 (by decide))
      refine v_iconst (v := 0) C dX5_fits_131 (by decide) ?_
      exact v_ret C dX5_fits_132 rfl rfl ⟨Or.inr rfl, ⟨_, _, hEb, (fun _ _ => rfl), (show 0 ≤ Int32.toInt (ip 5) by omega), (show Int32.toInt (ip 5) ≤ 8 by omega), hEb5, fun j h0 h5 => rfl⟩⟩
    · refine v_tableIn (off := 109) C 133 dX5_fits_24 (by omega) (by omega) (by rw [q2v, q2]; rfl) (by decide) ?_
      refine v_iload_n C 2 dX5_fits_133 rfl rfl ?_
      refine v_iconst (v := 2) C dX5_fits_134 (by decide) ?_
      refine b_icmp_eq C 143 dX5_fits_135 (by decide) (show ((-1) : Int32).toInt = (-1) by decide) (show (2 : Int32).toInt = 2 by decide) (fun c25 => absurd c25 (by decide)) (fun c25 => ?_)
      refine v_iload_n C 2 dX5_fits_138 rfl rfl ?_
      refine v_iconst (v := 1) C dX5_fits_139 (by decide) ?_
      refine b_icmp_ne C 147 dX5_fits_140 (by decide) (show ((-1) : Int32).toInt = (-1) by decide) (show (1 : Int32).toInt = 1 by decide) (fun c26 => ?_) (fun c26 => absurd c26 (by decide))
      refine v_iconst (v := 0) C dX5_fits_147 (by decide) ?_
      exact v_ret C dX5_fits_148 rfl rfl ⟨Or.inr rfl, ⟨_, _, hEb, (fun _ _ => rfl), (show 0 ≤ Int32.toInt (ip 5) by omega), (show Int32.toInt (ip 5) ≤ 8 by omega), hEb5, fun j h0 h5 => rfl⟩⟩
    · refine v_tableIn (off := 125) C 149 dX5_fits_24 (by omega) (by omega) (by rw [q2v, q2]; rfl) (by decide) ?_
      refine v_iload_n C 2 dX5_fits_149 rfl rfl ?_
      refine v_iconst (v := 2) C dX5_fits_150 (by decide) ?_
      refine b_icmp_ne C 158 dX5_fits_151 (by decide) (show ((-1) : Int32).toInt = (-1) by decide) (show (2 : Int32).toInt = 2 by decide) (fun c27 => ?_) (fun c27 => absurd c27 (by decide))
      refine v_iconst (v := 0) C dX5_fits_158 (by decide) ?_
      exact v_ret C dX5_fits_159 rfl rfl ⟨Or.inr rfl, ⟨_, _, hEb, (fun _ _ => rfl), (show 0 ≤ Int32.toInt (ip 5) by omega), (show Int32.toInt (ip 5) ≤ 8 by omega), hEb5, fun j h0 h5 => rfl⟩⟩
    · refine v_tableIn (off := 155) C 179 dX5_fits_24 (by omega) (by omega) (by rw [q2v, q2]; rfl) (by decide) ?_
      refine v_aload_n C 0 dX5_fits_179 rfl rfl ?_
      refine v_geti (v := ip 5) C b dX5_fits_180 fX5_38 (by omega) hEb rfl rfl ?_
      refine v_iconst (v := 2) C dX5_fits_183 (by decide) ?_
      refine b_icmp_lt C 211 dX5_fits_184 (by decide) (rfl : Int32.toInt (ip 5) = _) (show (2 : Int32).toInt = 2 by decide) (fun c28 => ?_) (fun c28 => ?_)
      · refine v_iconst (v := 0) C dX5_fits_211 (by decide) ?_
        exact v_ret C dX5_fits_212 rfl rfl ⟨Or.inr rfl, ⟨_, _, hEb, (fun _ _ => rfl), (show 0 ≤ Int32.toInt (ip 5) by omega), (show Int32.toInt (ip 5) ≤ 8 by omega), hEb5, fun j h0 h5 => rfl⟩⟩
      · refine v_aload_n C 0 dX5_fits_187 rfl rfl ?_
        refine v_iload_n C 1 dX5_fits_188 rfl rfl ?_
        refine v_aload_n C 0 dX5_fits_189 rfl rfl ?_
        refine v_getr C b dX5_fits_190 fX5_24 (by omega) hEb rfl rfl ?_
        refine v_aload_n C 0 dX5_fits_193 rfl rfl ?_
        refine v_geti (v := ip 5) C b dX5_fits_194 fX5_38 (by omega) hEb rfl rfl ?_
        refine v_iconst (v := 2) C dX5_fits_197 (by decide) ?_
        refine v_isub C dX5_fits_198 ?_
        refine v_top (fun x29 ex29 => ?_)
        have hx29 : x29.toInt = ((ip 5).toInt - 2) := by rw [ex29]; exact ti_sub (rfl : Int32.toInt (ip 5) = _) (show (2 : Int32).toInt = 2 by decide) (by omega) (by omega)
        refine v_ald (v := kd (((ip 5).toInt - 2)).toNat) C (b + 5) dX5_fits_199 (by omega) hEb5 (ti_in hx29 (by omega) (by omega)) (by rw [ti_cl hx29]) ?_
        refine v_iload_n C 2 dX5_fits_200 rfl rfl ?_
        refine v_cVi C dX5_fits_201 lX5_58 mX5_pairFits b (by omega) hEb (by decide) rfl (c_pairFits l G n ad _ b hb hEb hEb5 (by omega) (by omega) op (kd (((ip 5).toInt - 2)).toNat) (-1)) ⟨by decide, by decide⟩ rfl (Nat.le_of_ble_eq_true rfl) ⟨Nat.zero_le _, Nat.zero_le _⟩ (fun r31 E30 hq32 => ?_)
        obtain ⟨hq32, ip33, kd33, hB33, hK33, hl33, hu33, hD33, hO33⟩ := hq32
        rcases hq32 with rfl | rfl
        · refine b_if_eq C 211 dX5_fits_204 (by decide) (show (1 : Int32).toInt = 1 by decide) (fun c34 => absurd c34 (by decide)) (fun c34 => ?_)
          refine v_iconst (v := 1) C dX5_fits_207 (by decide) ?_
          refine v_goto C 212 dX5_fits_208 (by decide) ?_
          exact v_ret C dX5_fits_212 rfl rfl ⟨Or.inl rfl, ⟨_, _, hB33, (fun k hk => (hK33 k hk).trans ((fun _ _ => rfl) k hk)), (show 0 ≤ Int32.toInt (ip33 5) by omega), (show Int32.toInt (ip33 5) ≤ 8 by omega), hD33, fun j h0 h5 => (hO33 j h0 h5)⟩⟩
        · refine b_if_eq C 211 dX5_fits_204 (by decide) (show (0 : Int32).toInt = 0 by decide) (fun c35 => ?_) (fun c35 => absurd c35 (by decide))
          refine v_iconst (v := 0) C dX5_fits_211 (by decide) ?_
          exact v_ret C dX5_fits_212 rfl rfl ⟨Or.inr rfl, ⟨_, _, hB33, (fun k hk => (hK33 k hk).trans ((fun _ _ => rfl) k hk)), (show 0 ≤ Int32.toInt (ip33 5) by omega), (show Int32.toInt (ip33 5) ≤ 8 by omega), hD33, fun j h0 h5 => (hO33 j h0 h5)⟩⟩
    · refine v_tableIn (off := 155) C 179 dX5_fits_24 (by omega) (by omega) (by rw [q2v, q2]; rfl) (by decide) ?_
      refine v_aload_n C 0 dX5_fits_179 rfl rfl ?_
      refine v_geti (v := ip 5) C b dX5_fits_180 fX5_38 (by omega) hEb rfl rfl ?_
      refine v_iconst (v := 2) C dX5_fits_183 (by decide) ?_
      refine b_icmp_lt C 211 dX5_fits_184 (by decide) (rfl : Int32.toInt (ip 5) = _) (show (2 : Int32).toInt = 2 by decide) (fun c36 => ?_) (fun c36 => ?_)
      · refine v_iconst (v := 0) C dX5_fits_211 (by decide) ?_
        exact v_ret C dX5_fits_212 rfl rfl ⟨Or.inr rfl, ⟨_, _, hEb, (fun _ _ => rfl), (show 0 ≤ Int32.toInt (ip 5) by omega), (show Int32.toInt (ip 5) ≤ 8 by omega), hEb5, fun j h0 h5 => rfl⟩⟩
      · refine v_aload_n C 0 dX5_fits_187 rfl rfl ?_
        refine v_iload_n C 1 dX5_fits_188 rfl rfl ?_
        refine v_aload_n C 0 dX5_fits_189 rfl rfl ?_
        refine v_getr C b dX5_fits_190 fX5_24 (by omega) hEb rfl rfl ?_
        refine v_aload_n C 0 dX5_fits_193 rfl rfl ?_
        refine v_geti (v := ip 5) C b dX5_fits_194 fX5_38 (by omega) hEb rfl rfl ?_
        refine v_iconst (v := 2) C dX5_fits_197 (by decide) ?_
        refine v_isub C dX5_fits_198 ?_
        refine v_top (fun x37 ex37 => ?_)
        have hx37 : x37.toInt = ((ip 5).toInt - 2) := by rw [ex37]; exact ti_sub (rfl : Int32.toInt (ip 5) = _) (show (2 : Int32).toInt = 2 by decide) (by omega) (by omega)
        refine v_ald (v := kd (((ip 5).toInt - 2)).toNat) C (b + 5) dX5_fits_199 (by omega) hEb5 (ti_in hx37 (by omega) (by omega)) (by rw [ti_cl hx37]) ?_
        refine v_iload_n C 2 dX5_fits_200 rfl rfl ?_
        refine v_cVi C dX5_fits_201 lX5_58 mX5_pairFits b (by omega) hEb (by decide) rfl (c_pairFits l G n ad _ b hb hEb hEb5 (by omega) (by omega) op (kd (((ip 5).toInt - 2)).toNat) (-1)) ⟨by decide, by decide⟩ rfl (Nat.le_of_ble_eq_true rfl) ⟨Nat.zero_le _, Nat.zero_le _⟩ (fun r39 E38 hq40 => ?_)
        obtain ⟨hq40, ip41, kd41, hB41, hK41, hl41, hu41, hD41, hO41⟩ := hq40
        rcases hq40 with rfl | rfl
        · refine b_if_eq C 211 dX5_fits_204 (by decide) (show (1 : Int32).toInt = 1 by decide) (fun c42 => absurd c42 (by decide)) (fun c42 => ?_)
          refine v_iconst (v := 1) C dX5_fits_207 (by decide) ?_
          refine v_goto C 212 dX5_fits_208 (by decide) ?_
          exact v_ret C dX5_fits_212 rfl rfl ⟨Or.inl rfl, ⟨_, _, hB41, (fun k hk => (hK41 k hk).trans ((fun _ _ => rfl) k hk)), (show 0 ≤ Int32.toInt (ip41 5) by omega), (show Int32.toInt (ip41 5) ≤ 8 by omega), hD41, fun j h0 h5 => (hO41 j h0 h5)⟩⟩
        · refine b_if_eq C 211 dX5_fits_204 (by decide) (show (0 : Int32).toInt = 0 by decide) (fun c43 => ?_) (fun c43 => absurd c43 (by decide))
          refine v_iconst (v := 0) C dX5_fits_211 (by decide) ?_
          exact v_ret C dX5_fits_212 rfl rfl ⟨Or.inr rfl, ⟨_, _, hB41, (fun k hk => (hK41 k hk).trans ((fun _ _ => rfl) k hk)), (show 0 ≤ Int32.toInt (ip41 5) by omega), (show Int32.toInt (ip41 5) ≤ 8 by omega), hD41, fun j h0 h5 => (hO41 j h0 h5)⟩⟩
    · refine v_tableIn (off := 136) C 160 dX5_fits_24 (by omega) (by omega) (by rw [q2v, q2]; rfl) (by decide) ?_
      refine v_iload_n C 2 dX5_fits_160 rfl rfl ?_
      refine v_iconst (v := (-1)) C dX5_fits_161 (by decide) ?_
      refine b_icmp_eq C 177 dX5_fits_162 (by decide) (show ((-1) : Int32).toInt = (-1) by decide) (show ((-1) : Int32).toInt = (-1) by decide) (fun c44 => ?_) (fun c44 => absurd c44 (by decide))
      refine v_iconst (v := 0) C dX5_fits_177 (by decide) ?_
      exact v_ret C dX5_fits_178 rfl rfl ⟨Or.inr rfl, ⟨_, _, hEb, (fun _ _ => rfl), (show 0 ≤ Int32.toInt (ip 5) by omega), (show Int32.toInt (ip 5) ≤ 8 by omega), hEb5, fun j h0 h5 => rfl⟩⟩
    · refine v_tableOut C 179 dX5_fits_24 (by omega) (by decide) ?_
      refine v_aload_n C 0 dX5_fits_179 rfl rfl ?_
      refine v_geti (v := ip 5) C b dX5_fits_180 fX5_38 (by omega) hEb rfl rfl ?_
      refine v_iconst (v := 2) C dX5_fits_183 (by decide) ?_
      refine b_icmp_lt C 211 dX5_fits_184 (by decide) (rfl : Int32.toInt (ip 5) = _) (show (2 : Int32).toInt = 2 by decide) (fun c45 => ?_) (fun c45 => ?_)
      · refine v_iconst (v := 0) C dX5_fits_211 (by decide) ?_
        exact v_ret C dX5_fits_212 rfl rfl ⟨Or.inr rfl, ⟨_, _, hEb, (fun _ _ => rfl), (show 0 ≤ Int32.toInt (ip 5) by omega), (show Int32.toInt (ip 5) ≤ 8 by omega), hEb5, fun j h0 h5 => rfl⟩⟩
      · refine v_aload_n C 0 dX5_fits_187 rfl rfl ?_
        refine v_iload_n C 1 dX5_fits_188 rfl rfl ?_
        refine v_aload_n C 0 dX5_fits_189 rfl rfl ?_
        refine v_getr C b dX5_fits_190 fX5_24 (by omega) hEb rfl rfl ?_
        refine v_aload_n C 0 dX5_fits_193 rfl rfl ?_
        refine v_geti (v := ip 5) C b dX5_fits_194 fX5_38 (by omega) hEb rfl rfl ?_
        refine v_iconst (v := 2) C dX5_fits_197 (by decide) ?_
        refine v_isub C dX5_fits_198 ?_
        refine v_top (fun x46 ex46 => ?_)
        have hx46 : x46.toInt = ((ip 5).toInt - 2) := by rw [ex46]; exact ti_sub (rfl : Int32.toInt (ip 5) = _) (show (2 : Int32).toInt = 2 by decide) (by omega) (by omega)
        refine v_ald (v := kd (((ip 5).toInt - 2)).toNat) C (b + 5) dX5_fits_199 (by omega) hEb5 (ti_in hx46 (by omega) (by omega)) (by rw [ti_cl hx46]) ?_
        refine v_iload_n C 2 dX5_fits_200 rfl rfl ?_
        refine v_cVi C dX5_fits_201 lX5_58 mX5_pairFits b (by omega) hEb (by decide) rfl (c_pairFits l G n ad _ b hb hEb hEb5 (by omega) (by omega) op (kd (((ip 5).toInt - 2)).toNat) (-1)) ⟨by decide, by decide⟩ rfl (Nat.le_of_ble_eq_true rfl) ⟨Nat.zero_le _, Nat.zero_le _⟩ (fun r48 E47 hq49 => ?_)
        obtain ⟨hq49, ip50, kd50, hB50, hK50, hl50, hu50, hD50, hO50⟩ := hq49
        rcases hq49 with rfl | rfl
        · refine b_if_eq C 211 dX5_fits_204 (by decide) (show (1 : Int32).toInt = 1 by decide) (fun c51 => absurd c51 (by decide)) (fun c51 => ?_)
          refine v_iconst (v := 1) C dX5_fits_207 (by decide) ?_
          refine v_goto C 212 dX5_fits_208 (by decide) ?_
          exact v_ret C dX5_fits_212 rfl rfl ⟨Or.inl rfl, ⟨_, _, hB50, (fun k hk => (hK50 k hk).trans ((fun _ _ => rfl) k hk)), (show 0 ≤ Int32.toInt (ip50 5) by omega), (show Int32.toInt (ip50 5) ≤ 8 by omega), hD50, fun j h0 h5 => (hO50 j h0 h5)⟩⟩
        · refine b_if_eq C 211 dX5_fits_204 (by decide) (show (0 : Int32).toInt = 0 by decide) (fun c52 => ?_) (fun c52 => absurd c52 (by decide))
          refine v_iconst (v := 0) C dX5_fits_211 (by decide) ?_
          exact v_ret C dX5_fits_212 rfl rfl ⟨Or.inr rfl, ⟨_, _, hB50, (fun k hk => (hK50 k hk).trans ((fun _ _ => rfl) k hk)), (show 0 ≤ Int32.toInt (ip50 5) by omega), (show Int32.toInt (ip50 5) ≤ 8 by omega), hD50, fun j h0 h5 => (hO50 j h0 h5)⟩⟩
  · refine v_aload_n C 0 dX5_fits_7 rfl rfl ?_
    refine v_getr C b dX5_fits_8 fX5_24 (by omega) hEb rfl rfl ?_
    refine v_aload_n C 0 dX5_fits_11 rfl rfl ?_
    refine v_geti (v := ip 5) C b dX5_fits_12 fX5_38 (by omega) hEb rfl rfl ?_
    refine v_iconst (v := 1) C dX5_fits_15 (by decide) ?_
    refine v_isub C dX5_fits_16 ?_
    refine v_top (fun x53 ex53 => ?_)
    have hx53 : x53.toInt = ((ip 5).toInt - 1) := by rw [ex53]; exact ti_sub (rfl : Int32.toInt (ip 5) = _) (show (1 : Int32).toInt = 1 by decide) (by omega) (by omega)
    refine v_ald (v := kd (((ip 5).toInt - 1)).toNat) C (b + 5) dX5_fits_17 (by omega) hEb5 (ti_in hx53 (by omega) (by omega)) (by rw [ti_cl hx53]) ?_
    refine v_goto C 22 dX5_fits_18 (by decide) ?_
    refine v_istore_n (lv' := [(0, .ref (ad b)), (1, .int op), (2, .int (kd (((ip 5).toInt - 1)).toNat))]) C [1, 2, 0] dX5_fits_22 rfl (by decide) rfl ?_
    refine v_iload_n C 1 dX5_fits_23 rfl rfl ?_
    have q54v : Int32.toInt op = op.toInt := (rfl : Int32.toInt op = _)
    rcases (show op.toInt = 0 ∨ op.toInt = 1 ∨ op.toInt = 2 ∨ op.toInt = 3 ∨ op.toInt = 4 ∨ op.toInt = 5 ∨ op.toInt = 6 ∨ op.toInt = 7 ∨ op.toInt = 8 ∨ op.toInt = 9 ∨ op.toInt = 10 ∨ (op.toInt < 0 ∨ 10 < op.toInt) by omega) with q54 | q54 | q54 | q54 | q54 | q54 | q54 | q54 | q54 | q54 | q54 | q54
    · refine v_tableIn (off := 60) C 84 dX5_fits_24 (by omega) (by omega) (by rw [q54v, q54]; rfl) (by decide) ?_
      refine v_aload_n C 0 dX5_fits_84 rfl rfl ?_
      refine v_iconst (v := 0) C dX5_fits_85 (by decide) ?_
      refine v_cVi C dX5_fits_86 lX5_51 mX5_push b (by omega) hEb (by decide) rfl (c_push l G n ad _ b hb hEb hEb5 (by omega) (by omega) 0) ⟨by decide, by decide⟩ rfl (Nat.le_of_ble_eq_true rfl) ⟨Nat.zero_le _, Nat.zero_le _⟩ (fun r56 E55 hq57 => ?_)
      obtain ⟨hq57, ip58, kd58, hB58, hK58, hl58, hu58, hD58, hO58⟩ := hq57
      rcases hq57 with rfl | rfl
      · exact v_ret C dX5_fits_89 rfl rfl ⟨Or.inl rfl, ⟨_, _, hB58, (fun k hk => (hK58 k hk).trans ((fun _ _ => rfl) k hk)), (show 0 ≤ Int32.toInt (ip58 5) by omega), (show Int32.toInt (ip58 5) ≤ 8 by omega), hD58, fun j h0 h5 => (hO58 j h0 h5)⟩⟩
      · exact v_ret C dX5_fits_89 rfl rfl ⟨Or.inr rfl, ⟨_, _, hB58, (fun k hk => (hK58 k hk).trans ((fun _ _ => rfl) k hk)), (show 0 ≤ Int32.toInt (ip58 5) by omega), (show Int32.toInt (ip58 5) ≤ 8 by omega), hD58, fun j h0 h5 => (hO58 j h0 h5)⟩⟩
    · refine v_tableIn (off := 66) C 90 dX5_fits_24 (by omega) (by omega) (by rw [q54v, q54]; rfl) (by decide) ?_
      refine v_aload_n C 0 dX5_fits_90 rfl rfl ?_
      refine v_iconst (v := 0) C dX5_fits_91 (by decide) ?_
      refine v_iconst (v := 1) C dX5_fits_92 (by decide) ?_
      refine v_cVi C dX5_fits_93 lX5_54 mX5_become b (by omega) hEb (by decide) rfl (c_become l G n ad _ b hb hEb hEb5 (by omega) (by omega) 0 1) ⟨by decide, by decide⟩ rfl (Nat.le_of_ble_eq_true rfl) ⟨Nat.zero_le _, Nat.zero_le _⟩ (fun r60 E59 hq61 => ?_)
      obtain ⟨hq61, ip62, kd62, hB62, hK62, hl62, hu62, hD62, hO62⟩ := hq61
      rcases hq61 with rfl | rfl
      · exact v_ret C dX5_fits_96 rfl rfl ⟨Or.inl rfl, ⟨_, _, hB62, (fun k hk => (hK62 k hk).trans ((fun _ _ => rfl) k hk)), (show 0 ≤ Int32.toInt (ip62 5) by omega), (show Int32.toInt (ip62 5) ≤ 8 by omega), hD62, fun j h0 h5 => (hO62 j h0 h5)⟩⟩
      · exact v_ret C dX5_fits_96 rfl rfl ⟨Or.inr rfl, ⟨_, _, hB62, (fun k hk => (hK62 k hk).trans ((fun _ _ => rfl) k hk)), (show 0 ≤ Int32.toInt (ip62 5) by omega), (show Int32.toInt (ip62 5) ≤ 8 by omega), hD62, fun j h0 h5 => (hO62 j h0 h5)⟩⟩
    · refine v_tableIn (off := 73) C 97 dX5_fits_24 (by omega) (by omega) (by rw [q54v, q54]; rfl) (by decide) ?_
      refine v_aload_n C 0 dX5_fits_97 rfl rfl ?_
      refine v_iconst (v := 1) C dX5_fits_98 (by decide) ?_
      refine v_iconst (v := 2) C dX5_fits_99 (by decide) ?_
      refine v_cVi C dX5_fits_100 lX5_54 mX5_become b (by omega) hEb (by decide) rfl (c_become l G n ad _ b hb hEb hEb5 (by omega) (by omega) 1 2) ⟨by decide, by decide⟩ rfl (Nat.le_of_ble_eq_true rfl) ⟨Nat.zero_le _, Nat.zero_le _⟩ (fun r64 E63 hq65 => ?_)
      obtain ⟨hq65, ip66, kd66, hB66, hK66, hl66, hu66, hD66, hO66⟩ := hq65
      rcases hq65 with rfl | rfl
      · exact v_ret C dX5_fits_103 rfl rfl ⟨Or.inl rfl, ⟨_, _, hB66, (fun k hk => (hK66 k hk).trans ((fun _ _ => rfl) k hk)), (show 0 ≤ Int32.toInt (ip66 5) by omega), (show Int32.toInt (ip66 5) ≤ 8 by omega), hD66, fun j h0 h5 => (hO66 j h0 h5)⟩⟩
      · exact v_ret C dX5_fits_103 rfl rfl ⟨Or.inr rfl, ⟨_, _, hB66, (fun k hk => (hK66 k hk).trans ((fun _ _ => rfl) k hk)), (show 0 ≤ Int32.toInt (ip66 5) by omega), (show Int32.toInt (ip66 5) ≤ 8 by omega), hD66, fun j h0 h5 => (hO66 j h0 h5)⟩⟩
    · refine v_tableIn (off := 80) C 104 dX5_fits_24 (by omega) (by omega) (by rw [q54v, q54]; rfl) (by decide) ?_
      refine v_aload_n C 0 dX5_fits_104 rfl rfl ?_
      refine v_iconst (v := 2) C dX5_fits_105 (by decide) ?_
      refine v_iconst (v := 1) C dX5_fits_106 (by decide) ?_
      refine v_cVi C dX5_fits_107 lX5_54 mX5_become b (by omega) hEb (by decide) rfl (c_become l G n ad _ b hb hEb hEb5 (by omega) (by omega) 2 1) ⟨by decide, by decide⟩ rfl (Nat.le_of_ble_eq_true rfl) ⟨Nat.zero_le _, Nat.zero_le _⟩ (fun r68 E67 hq69 => ?_)
      obtain ⟨hq69, ip70, kd70, hB70, hK70, hl70, hu70, hD70, hO70⟩ := hq69
      rcases hq69 with rfl | rfl
      · exact v_ret C dX5_fits_110 rfl rfl ⟨Or.inl rfl, ⟨_, _, hB70, (fun k hk => (hK70 k hk).trans ((fun _ _ => rfl) k hk)), (show 0 ≤ Int32.toInt (ip70 5) by omega), (show Int32.toInt (ip70 5) ≤ 8 by omega), hD70, fun j h0 h5 => (hO70 j h0 h5)⟩⟩
      · exact v_ret C dX5_fits_110 rfl rfl ⟨Or.inr rfl, ⟨_, _, hB70, (fun k hk => (hK70 k hk).trans ((fun _ _ => rfl) k hk)), (show 0 ≤ Int32.toInt (ip70 5) by omega), (show Int32.toInt (ip70 5) ≤ 8 by omega), hD70, fun j h0 h5 => (hO70 j h0 h5)⟩⟩
    · refine v_tableIn (off := 87) C 111 dX5_fits_24 (by omega) (by omega) (by rw [q54v, q54]; rfl) (by decide) ?_
      refine v_aload_n C 0 dX5_fits_111 rfl rfl ?_
      refine v_iconst (v := 1) C dX5_fits_112 (by decide) ?_
      refine v_iconst (v := 0) C dX5_fits_113 (by decide) ?_
      refine v_cVi C dX5_fits_114 lX5_54 mX5_become b (by omega) hEb (by decide) rfl (c_become l G n ad _ b hb hEb hEb5 (by omega) (by omega) 1 0) ⟨by decide, by decide⟩ rfl (Nat.le_of_ble_eq_true rfl) ⟨Nat.zero_le _, Nat.zero_le _⟩ (fun r72 E71 hq73 => ?_)
      obtain ⟨hq73, ip74, kd74, hB74, hK74, hl74, hu74, hD74, hO74⟩ := hq73
      rcases hq73 with rfl | rfl
      · exact v_ret C dX5_fits_117 rfl rfl ⟨Or.inl rfl, ⟨_, _, hB74, (fun k hk => (hK74 k hk).trans ((fun _ _ => rfl) k hk)), (show 0 ≤ Int32.toInt (ip74 5) by omega), (show Int32.toInt (ip74 5) ≤ 8 by omega), hD74, fun j h0 h5 => (hO74 j h0 h5)⟩⟩
      · exact v_ret C dX5_fits_117 rfl rfl ⟨Or.inr rfl, ⟨_, _, hB74, (fun k hk => (hK74 k hk).trans ((fun _ _ => rfl) k hk)), (show 0 ≤ Int32.toInt (ip74 5) by omega), (show Int32.toInt (ip74 5) ≤ 8 by omega), hD74, fun j h0 h5 => (hO74 j h0 h5)⟩⟩
    · refine v_tableIn (off := 94) C 118 dX5_fits_24 (by omega) (by omega) (by rw [q54v, q54]; rfl) (by decide) ?_
      refine v_iload_n C 2 dX5_fits_118 rfl rfl ?_
      refine b_if_eq C 127 dX5_fits_119 (by decide) (rfl : Int32.toInt (kd (((ip 5).toInt - 1)).toNat) = _) (fun c75 => ?_) (fun c75 => ?_)
      · refine v_iconst (v := 1) C dX5_fits_127 (by decide) ?_
        refine v_goto C 132 dX5_fits_128 (by decide) ?_
        exact v_ret C dX5_fits_132 rfl rfl ⟨Or.inl rfl, ⟨_, _, hEb, (fun _ _ => rfl), (show 0 ≤ Int32.toInt (ip 5) by omega), (show Int32.toInt (ip 5) ≤ 8 by omega), hEb5, fun j h0 h5 => rfl⟩⟩
      · refine v_iload_n C 2 dX5_fits_122 rfl rfl ?_
        refine v_iconst (v := 1) C dX5_fits_123 (by decide) ?_
        refine b_icmp_ne C 131 dX5_fits_124 (by decide) (rfl : Int32.toInt (kd (((ip 5).toInt - 1)).toNat) = _) (show (1 : Int32).toInt = 1 by decide) (fun c76 => ?_) (fun c76 => ?_)
        · refine v_iconst (v := 0) C dX5_fits_131 (by decide) ?_
          exact v_ret C dX5_fits_132 rfl rfl ⟨Or.inr rfl, ⟨_, _, hEb, (fun _ _ => rfl), (show 0 ≤ Int32.toInt (ip 5) by omega), (show Int32.toInt (ip 5) ≤ 8 by omega), hEb5, fun j h0 h5 => rfl⟩⟩
        · refine v_iconst (v := 1) C dX5_fits_127 (by decide) ?_
          refine v_goto C 132 dX5_fits_128 (by decide) ?_
          exact v_ret C dX5_fits_132 rfl rfl ⟨Or.inl rfl, ⟨_, _, hEb, (fun _ _ => rfl), (show 0 ≤ Int32.toInt (ip 5) by omega), (show Int32.toInt (ip 5) ≤ 8 by omega), hEb5, fun j h0 h5 => rfl⟩⟩
    · refine v_tableIn (off := 109) C 133 dX5_fits_24 (by omega) (by omega) (by rw [q54v, q54]; rfl) (by decide) ?_
      refine v_iload_n C 2 dX5_fits_133 rfl rfl ?_
      refine v_iconst (v := 2) C dX5_fits_134 (by decide) ?_
      refine b_icmp_eq C 143 dX5_fits_135 (by decide) (rfl : Int32.toInt (kd (((ip 5).toInt - 1)).toNat) = _) (show (2 : Int32).toInt = 2 by decide) (fun c77 => ?_) (fun c77 => ?_)
      · refine v_iconst (v := 1) C dX5_fits_143 (by decide) ?_
        refine v_goto C 148 dX5_fits_144 (by decide) ?_
        exact v_ret C dX5_fits_148 rfl rfl ⟨Or.inl rfl, ⟨_, _, hEb, (fun _ _ => rfl), (show 0 ≤ Int32.toInt (ip 5) by omega), (show Int32.toInt (ip 5) ≤ 8 by omega), hEb5, fun j h0 h5 => rfl⟩⟩
      · refine v_iload_n C 2 dX5_fits_138 rfl rfl ?_
        refine v_iconst (v := 1) C dX5_fits_139 (by decide) ?_
        refine b_icmp_ne C 147 dX5_fits_140 (by decide) (rfl : Int32.toInt (kd (((ip 5).toInt - 1)).toNat) = _) (show (1 : Int32).toInt = 1 by decide) (fun c78 => ?_) (fun c78 => ?_)
        · refine v_iconst (v := 0) C dX5_fits_147 (by decide) ?_
          exact v_ret C dX5_fits_148 rfl rfl ⟨Or.inr rfl, ⟨_, _, hEb, (fun _ _ => rfl), (show 0 ≤ Int32.toInt (ip 5) by omega), (show Int32.toInt (ip 5) ≤ 8 by omega), hEb5, fun j h0 h5 => rfl⟩⟩
        · refine v_iconst (v := 1) C dX5_fits_143 (by decide) ?_
          refine v_goto C 148 dX5_fits_144 (by decide) ?_
          exact v_ret C dX5_fits_148 rfl rfl ⟨Or.inl rfl, ⟨_, _, hEb, (fun _ _ => rfl), (show 0 ≤ Int32.toInt (ip 5) by omega), (show Int32.toInt (ip 5) ≤ 8 by omega), hEb5, fun j h0 h5 => rfl⟩⟩
    · refine v_tableIn (off := 125) C 149 dX5_fits_24 (by omega) (by omega) (by rw [q54v, q54]; rfl) (by decide) ?_
      refine v_iload_n C 2 dX5_fits_149 rfl rfl ?_
      refine v_iconst (v := 2) C dX5_fits_150 (by decide) ?_
      refine b_icmp_ne C 158 dX5_fits_151 (by decide) (rfl : Int32.toInt (kd (((ip 5).toInt - 1)).toNat) = _) (show (2 : Int32).toInt = 2 by decide) (fun c79 => ?_) (fun c79 => ?_)
      · refine v_iconst (v := 0) C dX5_fits_158 (by decide) ?_
        exact v_ret C dX5_fits_159 rfl rfl ⟨Or.inr rfl, ⟨_, _, hEb, (fun _ _ => rfl), (show 0 ≤ Int32.toInt (ip 5) by omega), (show Int32.toInt (ip 5) ≤ 8 by omega), hEb5, fun j h0 h5 => rfl⟩⟩
      · refine v_iconst (v := 1) C dX5_fits_154 (by decide) ?_
        refine v_goto C 159 dX5_fits_155 (by decide) ?_
        exact v_ret C dX5_fits_159 rfl rfl ⟨Or.inl rfl, ⟨_, _, hEb, (fun _ _ => rfl), (show 0 ≤ Int32.toInt (ip 5) by omega), (show Int32.toInt (ip 5) ≤ 8 by omega), hEb5, fun j h0 h5 => rfl⟩⟩
    · refine v_tableIn (off := 155) C 179 dX5_fits_24 (by omega) (by omega) (by rw [q54v, q54]; rfl) (by decide) ?_
      refine v_aload_n C 0 dX5_fits_179 rfl rfl ?_
      refine v_geti (v := ip 5) C b dX5_fits_180 fX5_38 (by omega) hEb rfl rfl ?_
      refine v_iconst (v := 2) C dX5_fits_183 (by decide) ?_
      refine b_icmp_lt C 211 dX5_fits_184 (by decide) (rfl : Int32.toInt (ip 5) = _) (show (2 : Int32).toInt = 2 by decide) (fun c80 => ?_) (fun c80 => ?_)
      · refine v_iconst (v := 0) C dX5_fits_211 (by decide) ?_
        exact v_ret C dX5_fits_212 rfl rfl ⟨Or.inr rfl, ⟨_, _, hEb, (fun _ _ => rfl), (show 0 ≤ Int32.toInt (ip 5) by omega), (show Int32.toInt (ip 5) ≤ 8 by omega), hEb5, fun j h0 h5 => rfl⟩⟩
      · refine v_aload_n C 0 dX5_fits_187 rfl rfl ?_
        refine v_iload_n C 1 dX5_fits_188 rfl rfl ?_
        refine v_aload_n C 0 dX5_fits_189 rfl rfl ?_
        refine v_getr C b dX5_fits_190 fX5_24 (by omega) hEb rfl rfl ?_
        refine v_aload_n C 0 dX5_fits_193 rfl rfl ?_
        refine v_geti (v := ip 5) C b dX5_fits_194 fX5_38 (by omega) hEb rfl rfl ?_
        refine v_iconst (v := 2) C dX5_fits_197 (by decide) ?_
        refine v_isub C dX5_fits_198 ?_
        refine v_top (fun x81 ex81 => ?_)
        have hx81 : x81.toInt = ((ip 5).toInt - 2) := by rw [ex81]; exact ti_sub (rfl : Int32.toInt (ip 5) = _) (show (2 : Int32).toInt = 2 by decide) (by omega) (by omega)
        refine v_ald (v := kd (((ip 5).toInt - 2)).toNat) C (b + 5) dX5_fits_199 (by omega) hEb5 (ti_in hx81 (by omega) (by omega)) (by rw [ti_cl hx81]) ?_
        refine v_iload_n C 2 dX5_fits_200 rfl rfl ?_
        refine v_cVi C dX5_fits_201 lX5_58 mX5_pairFits b (by omega) hEb (by decide) rfl (c_pairFits l G n ad _ b hb hEb hEb5 (by omega) (by omega) op (kd (((ip 5).toInt - 2)).toNat) (kd (((ip 5).toInt - 1)).toNat)) ⟨by decide, by decide⟩ rfl (Nat.le_of_ble_eq_true rfl) ⟨Nat.zero_le _, Nat.zero_le _⟩ (fun r83 E82 hq84 => ?_)
        obtain ⟨hq84, ip85, kd85, hB85, hK85, hl85, hu85, hD85, hO85⟩ := hq84
        rcases hq84 with rfl | rfl
        · refine b_if_eq C 211 dX5_fits_204 (by decide) (show (1 : Int32).toInt = 1 by decide) (fun c86 => absurd c86 (by decide)) (fun c86 => ?_)
          refine v_iconst (v := 1) C dX5_fits_207 (by decide) ?_
          refine v_goto C 212 dX5_fits_208 (by decide) ?_
          exact v_ret C dX5_fits_212 rfl rfl ⟨Or.inl rfl, ⟨_, _, hB85, (fun k hk => (hK85 k hk).trans ((fun _ _ => rfl) k hk)), (show 0 ≤ Int32.toInt (ip85 5) by omega), (show Int32.toInt (ip85 5) ≤ 8 by omega), hD85, fun j h0 h5 => (hO85 j h0 h5)⟩⟩
        · refine b_if_eq C 211 dX5_fits_204 (by decide) (show (0 : Int32).toInt = 0 by decide) (fun c87 => ?_) (fun c87 => absurd c87 (by decide))
          refine v_iconst (v := 0) C dX5_fits_211 (by decide) ?_
          exact v_ret C dX5_fits_212 rfl rfl ⟨Or.inr rfl, ⟨_, _, hB85, (fun k hk => (hK85 k hk).trans ((fun _ _ => rfl) k hk)), (show 0 ≤ Int32.toInt (ip85 5) by omega), (show Int32.toInt (ip85 5) ≤ 8 by omega), hD85, fun j h0 h5 => (hO85 j h0 h5)⟩⟩
    · refine v_tableIn (off := 155) C 179 dX5_fits_24 (by omega) (by omega) (by rw [q54v, q54]; rfl) (by decide) ?_
      refine v_aload_n C 0 dX5_fits_179 rfl rfl ?_
      refine v_geti (v := ip 5) C b dX5_fits_180 fX5_38 (by omega) hEb rfl rfl ?_
      refine v_iconst (v := 2) C dX5_fits_183 (by decide) ?_
      refine b_icmp_lt C 211 dX5_fits_184 (by decide) (rfl : Int32.toInt (ip 5) = _) (show (2 : Int32).toInt = 2 by decide) (fun c88 => ?_) (fun c88 => ?_)
      · refine v_iconst (v := 0) C dX5_fits_211 (by decide) ?_
        exact v_ret C dX5_fits_212 rfl rfl ⟨Or.inr rfl, ⟨_, _, hEb, (fun _ _ => rfl), (show 0 ≤ Int32.toInt (ip 5) by omega), (show Int32.toInt (ip 5) ≤ 8 by omega), hEb5, fun j h0 h5 => rfl⟩⟩
      · refine v_aload_n C 0 dX5_fits_187 rfl rfl ?_
        refine v_iload_n C 1 dX5_fits_188 rfl rfl ?_
        refine v_aload_n C 0 dX5_fits_189 rfl rfl ?_
        refine v_getr C b dX5_fits_190 fX5_24 (by omega) hEb rfl rfl ?_
        refine v_aload_n C 0 dX5_fits_193 rfl rfl ?_
        refine v_geti (v := ip 5) C b dX5_fits_194 fX5_38 (by omega) hEb rfl rfl ?_
        refine v_iconst (v := 2) C dX5_fits_197 (by decide) ?_
        refine v_isub C dX5_fits_198 ?_
        refine v_top (fun x89 ex89 => ?_)
        have hx89 : x89.toInt = ((ip 5).toInt - 2) := by rw [ex89]; exact ti_sub (rfl : Int32.toInt (ip 5) = _) (show (2 : Int32).toInt = 2 by decide) (by omega) (by omega)
        refine v_ald (v := kd (((ip 5).toInt - 2)).toNat) C (b + 5) dX5_fits_199 (by omega) hEb5 (ti_in hx89 (by omega) (by omega)) (by rw [ti_cl hx89]) ?_
        refine v_iload_n C 2 dX5_fits_200 rfl rfl ?_
        refine v_cVi C dX5_fits_201 lX5_58 mX5_pairFits b (by omega) hEb (by decide) rfl (c_pairFits l G n ad _ b hb hEb hEb5 (by omega) (by omega) op (kd (((ip 5).toInt - 2)).toNat) (kd (((ip 5).toInt - 1)).toNat)) ⟨by decide, by decide⟩ rfl (Nat.le_of_ble_eq_true rfl) ⟨Nat.zero_le _, Nat.zero_le _⟩ (fun r91 E90 hq92 => ?_)
        obtain ⟨hq92, ip93, kd93, hB93, hK93, hl93, hu93, hD93, hO93⟩ := hq92
        rcases hq92 with rfl | rfl
        · refine b_if_eq C 211 dX5_fits_204 (by decide) (show (1 : Int32).toInt = 1 by decide) (fun c94 => absurd c94 (by decide)) (fun c94 => ?_)
          refine v_iconst (v := 1) C dX5_fits_207 (by decide) ?_
          refine v_goto C 212 dX5_fits_208 (by decide) ?_
          exact v_ret C dX5_fits_212 rfl rfl ⟨Or.inl rfl, ⟨_, _, hB93, (fun k hk => (hK93 k hk).trans ((fun _ _ => rfl) k hk)), (show 0 ≤ Int32.toInt (ip93 5) by omega), (show Int32.toInt (ip93 5) ≤ 8 by omega), hD93, fun j h0 h5 => (hO93 j h0 h5)⟩⟩
        · refine b_if_eq C 211 dX5_fits_204 (by decide) (show (0 : Int32).toInt = 0 by decide) (fun c95 => ?_) (fun c95 => absurd c95 (by decide))
          refine v_iconst (v := 0) C dX5_fits_211 (by decide) ?_
          exact v_ret C dX5_fits_212 rfl rfl ⟨Or.inr rfl, ⟨_, _, hB93, (fun k hk => (hK93 k hk).trans ((fun _ _ => rfl) k hk)), (show 0 ≤ Int32.toInt (ip93 5) by omega), (show Int32.toInt (ip93 5) ≤ 8 by omega), hD93, fun j h0 h5 => (hO93 j h0 h5)⟩⟩
    · refine v_tableIn (off := 136) C 160 dX5_fits_24 (by omega) (by omega) (by rw [q54v, q54]; rfl) (by decide) ?_
      refine v_iload_n C 2 dX5_fits_160 rfl rfl ?_
      refine v_iconst (v := (-1)) C dX5_fits_161 (by decide) ?_
      refine b_icmp_eq C 177 dX5_fits_162 (by decide) (rfl : Int32.toInt (kd (((ip 5).toInt - 1)).toNat) = _) (show ((-1) : Int32).toInt = (-1) by decide) (fun c96 => ?_) (fun c96 => ?_)
      · refine v_iconst (v := 0) C dX5_fits_177 (by decide) ?_
        exact v_ret C dX5_fits_178 rfl rfl ⟨Or.inr rfl, ⟨_, _, hEb, (fun _ _ => rfl), (show 0 ≤ Int32.toInt (ip 5) by omega), (show Int32.toInt (ip 5) ≤ 8 by omega), hEb5, fun j h0 h5 => rfl⟩⟩
      · refine v_aload_n C 0 dX5_fits_165 rfl rfl ?_
        refine v_iload_n C 2 dX5_fits_166 rfl rfl ?_
        refine v_cVi C dX5_fits_167 lX5_51 mX5_push b (by omega) hEb (by decide) rfl (c_push l G n ad _ b hb hEb hEb5 (by omega) (by omega) (kd (((ip 5).toInt - 1)).toNat)) ⟨by decide, by decide⟩ rfl (Nat.le_of_ble_eq_true rfl) ⟨Nat.zero_le _, Nat.zero_le _⟩ (fun r98 E97 hq99 => ?_)
        obtain ⟨hq99, ip100, kd100, hB100, hK100, hl100, hu100, hD100, hO100⟩ := hq99
        rcases hq99 with rfl | rfl
        · refine b_if_eq C 177 dX5_fits_170 (by decide) (show (1 : Int32).toInt = 1 by decide) (fun c101 => absurd c101 (by decide)) (fun c101 => ?_)
          refine v_iconst (v := 1) C dX5_fits_173 (by decide) ?_
          refine v_goto C 178 dX5_fits_174 (by decide) ?_
          exact v_ret C dX5_fits_178 rfl rfl ⟨Or.inl rfl, ⟨_, _, hB100, (fun k hk => (hK100 k hk).trans ((fun _ _ => rfl) k hk)), (show 0 ≤ Int32.toInt (ip100 5) by omega), (show Int32.toInt (ip100 5) ≤ 8 by omega), hD100, fun j h0 h5 => (hO100 j h0 h5)⟩⟩
        · refine b_if_eq C 177 dX5_fits_170 (by decide) (show (0 : Int32).toInt = 0 by decide) (fun c102 => ?_) (fun c102 => absurd c102 (by decide))
          refine v_iconst (v := 0) C dX5_fits_177 (by decide) ?_
          exact v_ret C dX5_fits_178 rfl rfl ⟨Or.inr rfl, ⟨_, _, hB100, (fun k hk => (hK100 k hk).trans ((fun _ _ => rfl) k hk)), (show 0 ≤ Int32.toInt (ip100 5) by omega), (show Int32.toInt (ip100 5) ≤ 8 by omega), hD100, fun j h0 h5 => (hO100 j h0 h5)⟩⟩
    · refine v_tableOut C 179 dX5_fits_24 (by omega) (by decide) ?_
      refine v_aload_n C 0 dX5_fits_179 rfl rfl ?_
      refine v_geti (v := ip 5) C b dX5_fits_180 fX5_38 (by omega) hEb rfl rfl ?_
      refine v_iconst (v := 2) C dX5_fits_183 (by decide) ?_
      refine b_icmp_lt C 211 dX5_fits_184 (by decide) (rfl : Int32.toInt (ip 5) = _) (show (2 : Int32).toInt = 2 by decide) (fun c103 => ?_) (fun c103 => ?_)
      · refine v_iconst (v := 0) C dX5_fits_211 (by decide) ?_
        exact v_ret C dX5_fits_212 rfl rfl ⟨Or.inr rfl, ⟨_, _, hEb, (fun _ _ => rfl), (show 0 ≤ Int32.toInt (ip 5) by omega), (show Int32.toInt (ip 5) ≤ 8 by omega), hEb5, fun j h0 h5 => rfl⟩⟩
      · refine v_aload_n C 0 dX5_fits_187 rfl rfl ?_
        refine v_iload_n C 1 dX5_fits_188 rfl rfl ?_
        refine v_aload_n C 0 dX5_fits_189 rfl rfl ?_
        refine v_getr C b dX5_fits_190 fX5_24 (by omega) hEb rfl rfl ?_
        refine v_aload_n C 0 dX5_fits_193 rfl rfl ?_
        refine v_geti (v := ip 5) C b dX5_fits_194 fX5_38 (by omega) hEb rfl rfl ?_
        refine v_iconst (v := 2) C dX5_fits_197 (by decide) ?_
        refine v_isub C dX5_fits_198 ?_
        refine v_top (fun x104 ex104 => ?_)
        have hx104 : x104.toInt = ((ip 5).toInt - 2) := by rw [ex104]; exact ti_sub (rfl : Int32.toInt (ip 5) = _) (show (2 : Int32).toInt = 2 by decide) (by omega) (by omega)
        refine v_ald (v := kd (((ip 5).toInt - 2)).toNat) C (b + 5) dX5_fits_199 (by omega) hEb5 (ti_in hx104 (by omega) (by omega)) (by rw [ti_cl hx104]) ?_
        refine v_iload_n C 2 dX5_fits_200 rfl rfl ?_
        refine v_cVi C dX5_fits_201 lX5_58 mX5_pairFits b (by omega) hEb (by decide) rfl (c_pairFits l G n ad _ b hb hEb hEb5 (by omega) (by omega) op (kd (((ip 5).toInt - 2)).toNat) (kd (((ip 5).toInt - 1)).toNat)) ⟨by decide, by decide⟩ rfl (Nat.le_of_ble_eq_true rfl) ⟨Nat.zero_le _, Nat.zero_le _⟩ (fun r106 E105 hq107 => ?_)
        obtain ⟨hq107, ip108, kd108, hB108, hK108, hl108, hu108, hD108, hO108⟩ := hq107
        rcases hq107 with rfl | rfl
        · refine b_if_eq C 211 dX5_fits_204 (by decide) (show (1 : Int32).toInt = 1 by decide) (fun c109 => absurd c109 (by decide)) (fun c109 => ?_)
          refine v_iconst (v := 1) C dX5_fits_207 (by decide) ?_
          refine v_goto C 212 dX5_fits_208 (by decide) ?_
          exact v_ret C dX5_fits_212 rfl rfl ⟨Or.inl rfl, ⟨_, _, hB108, (fun k hk => (hK108 k hk).trans ((fun _ _ => rfl) k hk)), (show 0 ≤ Int32.toInt (ip108 5) by omega), (show Int32.toInt (ip108 5) ≤ 8 by omega), hD108, fun j h0 h5 => (hO108 j h0 h5)⟩⟩
        · refine b_if_eq C 211 dX5_fits_204 (by decide) (show (0 : Int32).toInt = 0 by decide) (fun c110 => ?_) (fun c110 => absurd c110 (by decide))
          refine v_iconst (v := 0) C dX5_fits_211 (by decide) ?_
          exact v_ret C dX5_fits_212 rfl rfl ⟨Or.inr rfl, ⟨_, _, hB108, (fun k hk => (hK108 k hk).trans ((fun _ _ => rfl) k hk)), (show 0 ≤ Int32.toInt (ip108 5) by omega), (show Int32.toInt (ip108 5) ≤ 8 by omega), hD108, fun j h0 h5 => (hO108 j h0 h5)⟩⟩

set_option maxRecDepth 20000 in
theorem lp_fit {X : Mx} {l : Launch} {G : Gl} {A : Nat → Prop} {Q : State → Prop} {n : Nat} {ad : Nat → Nat} (C : Cx X l G A "OddHours$Program" cX5_fit 2 none (rmx 2 47 0 0)) (b : Nat) (hb : b + 6 ≤ n) (E0 : Nat → va_E) {ip0 po : Nat → Int32} (hs2 : (ip0 6).toInt ≤ 10) (h1 : E0 (b + 1) = aI G 10 po)
    (k33 : ∀ (E : Nat → va_E) (ip tp kd : Nat → Int32) (x1 : Int32), E b = ob 5 (rP ad b) ip → ip 6 = ip0 6 → 0 ≤ (ip 5).toInt → (ip 5).toInt ≤ 8 → E (b + 4) = aI G 10 tp → E (b + 5) = aI G 8 kd → (∀ j, j ≠ b → j ≠ b + 4 → j ≠ b + 5 → E j = E0 j) → V X G A 2 Q n ad 0 0 E 33 [(0, .ref (ad b)), (1, .int x1)] []) (k68 : ∀ (E : Nat → va_E) (ip tp kd : Nat → Int32) (x1 : Int32), E b = ob 5 (rP ad b) ip → ip 6 = ip0 6 → 0 ≤ (ip 5).toInt → (ip 5).toInt ≤ 8 → E (b + 4) = aI G 10 tp → E (b + 5) = aI G 8 kd → (∀ j, j ≠ b → j ≠ b + 4 → j ≠ b + 5 → E j = E0 j) → V X G A 2 Q n ad 0 0 E 68 [(0, .ref (ad b)), (1, .int x1)] []) :
    ∀ (t k : Nat) (E : Nat → va_E) (ip tp kd : Nat → Int32) (x1 : Int32), (k : Int) + (t : Int) = (ip0 6).toInt → x1.toInt = (k : Int) → E b = ob 5 (rP ad b) ip → ip 6 = ip0 6 → 0 ≤ (ip 5).toInt → (ip 5).toInt ≤ 8 → E (b + 4) = aI G 10 tp → E (b + 5) = aI G 8 kd → (∀ j, j ≠ b → j ≠ b + 4 → j ≠ b + 5 → E j = E0 j) → V X G A 2 Q n ad 0 0 E 7 [(0, .ref (ad b)), (1, .int x1)] [] := by
  intro t
  induction t with
  | zero =>
    intro k E ip tp kd x1 hk hx1 hEb h6 hh1 hh2 hEb4 hEb5 hfr
    have hEb1 := (hfr (b + 1) (by omega) (by omega) (by omega)).trans h1
    refine v_iload_n C 1 dX5_fit_7 rfl rfl ?_
    refine v_aload_n C 0 dX5_fit_8 rfl rfl ?_
    refine v_geti (v := ip 6) C b dX5_fit_9 fX5_27 (by omega) hEb rfl rfl ?_
    refine b_icmp_ge C 68 dX5_fit_12 (by decide) hx1 (show (ip 6).toInt = (ip0 6).toInt by rw [h6]) (fun c31 => ?_) (fun c31 => by exfalso; omega)
    exact k68 E ip tp kd x1 hEb h6 hh1 hh2 hEb4 hEb5 hfr
  | succ t ih =>
    intro k E ip tp kd x1 hk hx1 hEb h6 hh1 hh2 hEb4 hEb5 hfr
    have hEb1 := (hfr (b + 1) (by omega) (by omega) (by omega)).trans h1
    refine v_iload_n C 1 dX5_fit_7 rfl rfl ?_
    refine v_aload_n C 0 dX5_fit_8 rfl rfl ?_
    refine v_geti (v := ip 6) C b dX5_fit_9 fX5_27 (by omega) hEb rfl rfl ?_
    refine b_icmp_ge C 68 dX5_fit_12 (by decide) hx1 (show (ip 6).toInt = (ip0 6).toInt by rw [h6]) (fun c31 => by exfalso; omega) (fun c31 => ?_)
    refine v_aload_n C 0 dX5_fit_15 rfl rfl ?_
    refine v_aload_n C 0 dX5_fit_16 rfl rfl ?_
    refine v_getr C b dX5_fit_17 fX5_9 (by omega) hEb rfl rfl ?_
    refine v_iload_n C 1 dX5_fit_20 rfl rfl ?_
    refine v_ald (v := po k) C (b + 1) dX5_fit_21 (by omega) hEb1 (ti_in hx1 (by omega) (by omega)) (by rw [ti_cl hx1, show Int.toNat (k : Int) = k by omega]) ?_
    refine v_cVi C dX5_fit_22 lX5_41 mX5_fits b (by omega) hEb (by decide) rfl (c_fits l G n ad _ b hb hEb hEb5 (by omega) (by omega) (po k)) ⟨by decide, by decide⟩ rfl (Nat.le_of_ble_eq_true rfl) ⟨Nat.zero_le _, Nat.zero_le _⟩ (fun r33 E32 hq34 => ?_)
    obtain ⟨hq34, ip35, kd35, hB35, hK35, hl35, hu35, hD35, hO35⟩ := hq34
    have hE32_b1 := (hO35 (b + 1) (by omega) (by omega)).trans hEb1
    have hE32_b4 := (hO35 (b + 4) (by omega) (by omega)).trans hEb4
    rcases hq34 with rfl | rfl
    · refine b_if_ne C 34 dX5_fit_25 (by decide) (show (1 : Int32).toInt = 1 by decide) (fun c36 => ?_) (fun c36 => absurd c36 (by decide))
      refine v_aload_n C 0 dX5_fit_34 rfl rfl ?_
      refine v_getr C b dX5_fit_35 fX5_21 (by omega) hB35 rfl rfl ?_
      refine v_iload_n C 1 dX5_fit_38 rfl rfl ?_
      refine v_aload_n C 0 dX5_fit_39 rfl rfl ?_
      refine v_geti (v := ip35 5) C b dX5_fit_40 fX5_38 (by omega) hB35 rfl rfl ?_
      refine b_if_le C 60 dX5_fit_43 (by decide) (rfl : Int32.toInt (ip35 5) = _) (fun c37 => ?_) (fun c37 => ?_)
      · refine v_iconst (v := (-1)) C dX5_fit_60 (by decide) ?_
        refine v_ast C (b + 4) dX5_fit_61 (by omega) hE32_b4 (ti_in hx1 (by omega) (by omega)) (fun E38 hE38_b4 oE38 => ?_)
        rw [ti_cl hx1, show Int.toNat (k : Int) = k by omega] at hE38_b4
        have hE38_b := (oE38 b (by omega)).trans hB35
        have hE38_b5 := (oE38 (b + 5) (by omega)).trans hD35
        have hE38_b1 := (oE38 (b + 1) (by omega)).trans hE32_b1
        obtain ⟨x39, ex39⟩ : ∃ y : Int32, y = x1 + 1 := ⟨_, rfl⟩
        have hx39 : x39.toInt = ((k : Int) + 1) := by rw [ex39]; exact ti_add hx1 (show (1 : Int32).toInt = 1 by decide) (by omega) (by omega)
        refine v_iinc (v := x39) (lv' := [(0, .ref (ad b)), (1, .int x39)]) C 1 [1, 0] dX5_fit_62 rfl (ex39.symm) (by decide) rfl ?_
        refine v_goto C 7 dX5_fit_65 (by decide) ?_
        exact ih (k + 1) _ _ _ _ x39 (by omega) (by rw [hx39]; omega) hE38_b (((fun k hk => (hK35 k hk).trans ((fun _ _ => rfl) k hk)) 6 (by decide)).trans h6) (by omega) (by omega) hE38_b4 hE38_b5 (fun j a b c => (((oE38 j b).trans (hO35 j a c))).trans (hfr j a b c))
      · refine v_aload_n C 0 dX5_fit_46 rfl rfl ?_
        refine v_getr C b dX5_fit_47 fX5_24 (by omega) hB35 rfl rfl ?_
        refine v_aload_n C 0 dX5_fit_50 rfl rfl ?_
        refine v_geti (v := ip35 5) C b dX5_fit_51 fX5_38 (by omega) hB35 rfl rfl ?_
        refine v_iconst (v := 1) C dX5_fit_54 (by decide) ?_
        refine v_isub C dX5_fit_55 ?_
        refine v_top (fun x40 ex40 => ?_)
        have hx40 : x40.toInt = ((ip35 5).toInt - 1) := by rw [ex40]; exact ti_sub (rfl : Int32.toInt (ip35 5) = _) (show (1 : Int32).toInt = 1 by decide) (by omega) (by omega)
        refine v_ald (v := kd35 (((ip35 5).toInt - 1)).toNat) C (b + 5) dX5_fit_56 (by omega) hD35 (ti_in hx40 (by omega) (by omega)) (by rw [ti_cl hx40]) ?_
        refine v_goto C 61 dX5_fit_57 (by decide) ?_
        refine v_ast C (b + 4) dX5_fit_61 (by omega) hE32_b4 (ti_in hx1 (by omega) (by omega)) (fun E41 hE41_b4 oE41 => ?_)
        rw [ti_cl hx1, show Int.toNat (k : Int) = k by omega] at hE41_b4
        have hE41_b := (oE41 b (by omega)).trans hB35
        have hE41_b5 := (oE41 (b + 5) (by omega)).trans hD35
        have hE41_b1 := (oE41 (b + 1) (by omega)).trans hE32_b1
        obtain ⟨x42, ex42⟩ : ∃ y : Int32, y = x1 + 1 := ⟨_, rfl⟩
        have hx42 : x42.toInt = ((k : Int) + 1) := by rw [ex42]; exact ti_add hx1 (show (1 : Int32).toInt = 1 by decide) (by omega) (by omega)
        refine v_iinc (v := x42) (lv' := [(0, .ref (ad b)), (1, .int x42)]) C 1 [1, 0] dX5_fit_62 rfl (ex42.symm) (by decide) rfl ?_
        refine v_goto C 7 dX5_fit_65 (by decide) ?_
        exact ih (k + 1) _ _ _ _ x42 (by omega) (by rw [hx42]; omega) hE41_b (((fun k hk => (hK35 k hk).trans ((fun _ _ => rfl) k hk)) 6 (by decide)).trans h6) (by omega) (by omega) hE41_b4 hE41_b5 (fun j a b c => (((oE41 j b).trans (hO35 j a c))).trans (hfr j a b c))
    · refine b_if_ne C 34 dX5_fit_25 (by decide) (show (0 : Int32).toInt = 0 by decide) (fun c43 => absurd c43 (by decide)) (fun c43 => ?_)
      refine v_aload_n C 0 dX5_fit_28 rfl rfl ?_
      refine v_iload_n C 1 dX5_fit_29 rfl rfl ?_
      refine v_puti C b dX5_fit_30 fX5_45 (by omega) hB35 rfl rfl rfl rfl (fun E44 hE44_b oE44 => ?_)
      have hE44_b5 := (oE44 (b + 5) (by omega)).trans hD35
      have hE44_b1 := (oE44 (b + 1) (by omega)).trans hE32_b1
      have hE44_b4 := (oE44 (b + 4) (by omega)).trans hE32_b4
      exact k33 _ _ _ _ x1 hE44_b (((fun k hk => (hK35 k hk).trans ((fun _ _ => rfl) k hk)) 6 (by decide)).trans h6) (by first | assumption | (show 0 ≤ Int32.toInt (ip35 5); omega)) (by first | assumption | (show Int32.toInt (ip35 5) ≤ 8; omega)) hE44_b4 hE44_b5 (fun j a b c => (((oE44 j a).trans (hO35 j a c))).trans (hfr j a b c))

set_option maxRecDepth 20000 in
theorem c_fit (l : Launch) (G : Gl) (n : Nat) (ad : Nat → Nat) (E : Nat → va_E) (b : Nat) (hb : b + 6 ≤ n) {ip kd : Nat → Int32} (hEb : E b = ob 5 (rP ad b) ip) (hEb5 : E (b + 5) = aI G 8 kd) {po px py tp : Nat → Int32} (hEb1 : E (b + 1) = aI G 10 po) (hEb2 : E (b + 2) = aI G 10 px) (hEb3 : E (b + 3) = aI G 10 py) (hEb4 : E (b + 4) = aI G 10 tp) (hs1 : 0 ≤ (ip 6).toInt) (hs2 : (ip 6).toInt ≤ 10)  : CtV l G yX5_fit cX5_fit 2 2 47 n ad E [.ref (ad b)] (fun E' => FT G ad b E E' ip) := by
  refine CtV.of (by decide) (Nat.le_of_ble_eq_true rfl) (fun X A C => ?_)
  refine v_sub (lv' := [(0, .ref (ad b))]) [0] rfl ?_
  refine v_aload_n C 0 dX5_fit_0 rfl rfl ?_
  refine v_iconst (v := 0) C dX5_fit_1 (by decide) ?_
  refine v_puti C b dX5_fit_2 fX5_38 (by omega) hEb rfl rfl rfl rfl (fun E1 hE1_b oE1 => ?_)
  have hE1_b5 := (oE1 (b + 5) (by omega)).trans hEb5
  have hE1_b1 := (oE1 (b + 1) (by omega)).trans hEb1
  have hE1_b2 := (oE1 (b + 2) (by omega)).trans hEb2
  have hE1_b3 := (oE1 (b + 3) (by omega)).trans hEb3
  have hE1_b4 := (oE1 (b + 4) (by omega)).trans hEb4
  refine v_iconst (v := 0) C dX5_fit_5 (by decide) ?_
  refine v_istore_n (lv' := [(0, .ref (ad b)), (1, .int 0)]) C [1, 0] dX5_fit_6 rfl (by decide) rfl ?_
  obtain ⟨T, hT⟩ : ∃ T : Nat, (T : Int) = (ip 6).toInt := ⟨(ip 6).toInt.toNat, by omega⟩
  refine lp_fit C b hb E1 (ip0 := ip) hs2 hE1_b1 (fun E9 ip9 tp9 kd9 x9 hB9 h69 hl9 hu9 h49 h59 hf9 => ?_) (fun E9 ip9 tp9 kd9 x9 hB9 h69 hl9 hu9 h49 h59 hf9 => ?_) T 0 E1 _ tp kd 0 (by omega) (show (0 : Int32).toInt = 0 by decide) hE1_b rfl (show (0 : Int) ≤ (0 : Int32).toInt by decide) (show (0 : Int32).toInt ≤ 8 by decide) hE1_b4 hE1_b5 (fun j _ _ _ => rfl)
  · exact v_vret C dX5_fit_33 rfl ⟨ip9, tp9, kd9, hB9, h69, hl9, hu9, h49, h59, fun j a b c => (hf9 j a b c).trans (oE1 j a)⟩
  · refine v_aload_n C 0 dX5_fit_68 rfl rfl ?_
    refine v_aload_n C 0 dX5_fit_69 rfl rfl ?_
    refine v_geti (v := ip9 5) C b dX5_fit_70 fX5_38 (by omega) hB9 rfl rfl ?_
    refine v_iconst (v := 1) C dX5_fit_73 (by decide) ?_
    refine b_icmp_ne C 81 dX5_fit_74 (by decide) (rfl : Int32.toInt (ip9 5) = _) (show (1 : Int32).toInt = 1 by decide) (fun c2 => ?_) (fun c2 => ?_)
    · refine v_aload_n C 0 dX5_fit_81 rfl rfl ?_
      refine v_geti (v := ip9 6) C b dX5_fit_82 fX5_27 (by omega) hB9 rfl rfl ?_
      refine v_top (fun x3 ex3 => ?_)
      refine v_puti C b dX5_fit_85 fX5_45 (by omega) hB9 rfl rfl rfl rfl (fun E4 hE4_b oE4 => ?_)
      have hE4_b4 := (oE4 (b + 4) (by omega)).trans h49
      have hE4_b5 := (oE4 (b + 5) (by omega)).trans h59
      refine v_aload_n C 0 dX5_fit_88 rfl rfl ?_
      refine v_aload_n C 0 dX5_fit_89 rfl rfl ?_
      refine v_getr C b dX5_fit_90 fX5_24 (by omega) hE4_b rfl rfl ?_
      refine v_iconst (v := 0) C dX5_fit_93 (by decide) ?_
      refine v_ald (v := kd9 0) C (b + 5) dX5_fit_94 (by omega) hE4_b5 (ti_in (show (0 : Int32).toInt = 0 by decide) (by omega) (by omega)) (congrArg kd9 (by decide)) ?_
      refine v_top (fun x5 ex5 => ?_)
      refine v_puti C b dX5_fit_95 fX5_48 (by omega) hE4_b rfl rfl rfl rfl (fun E6 hE6_b oE6 => ?_)
      have hE6_b4 := (oE6 (b + 4) (by omega)).trans hE4_b4
      have hE6_b5 := (oE6 (b + 5) (by omega)).trans hE4_b5
      exact v_vret C dX5_fit_98 rfl ⟨_, tp9, kd9, hE6_b, h69, hl9, hu9, hE6_b4, hE6_b5, fun j a b c => (((oE6 j a).trans (oE4 j a))).trans ((hf9 j a b c).trans (oE1 j a))⟩
    · refine v_iconst (v := (-1)) C dX5_fit_77 (by decide) ?_
      refine v_goto C 85 dX5_fit_78 (by decide) ?_
      refine v_puti C b dX5_fit_85 fX5_45 (by omega) hB9 rfl rfl rfl rfl (fun E7 hE7_b oE7 => ?_)
      have hE7_b4 := (oE7 (b + 4) (by omega)).trans h49
      have hE7_b5 := (oE7 (b + 5) (by omega)).trans h59
      refine v_aload_n C 0 dX5_fit_88 rfl rfl ?_
      refine v_aload_n C 0 dX5_fit_89 rfl rfl ?_
      refine v_getr C b dX5_fit_90 fX5_24 (by omega) hE7_b rfl rfl ?_
      refine v_iconst (v := 0) C dX5_fit_93 (by decide) ?_
      refine v_ald (v := kd9 0) C (b + 5) dX5_fit_94 (by omega) hE7_b5 (ti_in (show (0 : Int32).toInt = 0 by decide) (by omega) (by omega)) (congrArg kd9 (by decide)) ?_
      refine v_top (fun x8 ex8 => ?_)
      refine v_puti C b dX5_fit_95 fX5_48 (by omega) hE7_b rfl rfl rfl rfl (fun E9 hE9_b oE9 => ?_)
      have hE9_b4 := (oE9 (b + 4) (by omega)).trans hE7_b4
      have hE9_b5 := (oE9 (b + 5) (by omega)).trans hE7_b5
      exact v_vret C dX5_fit_98 rfl ⟨_, tp9, kd9, hE9_b, h69, hl9, hu9, hE9_b4, hE9_b5, fun j a b c => (((oE9 j a).trans (oE7 j a))).trans ((hf9 j a b c).trans (oE1 j a))⟩

