set_option maxRecDepth 20000 in
theorem k_meetings (l : Launch) (G : Gl) (n : Nat) (ad : Nat → Nat) (E : Nat → va_E) {k : Nat} {ic md rf rto ron rat rbe rtd rm fv : Nat → Int32} {E0 : Nat → va_E} (hJ : JZ l G ad k (ZCl G ad k ic md rf rto ron rat rbe rtd rm fv) (ZYc G ad k ic md rf rto ron rat rbe rtd rm fv) E0 E) {kn : Int32} {io : Nat → Int32} (hE0 : E 0 = ob 8 (rfs ad [1, 6, 8, 48, 45, 51]) io) (hkn : io 7 = kn) (hC : CalW G ad E ic md) (x : Int32) (a : Int32) (p : Int32) (q : Int32) (v : Int32) : CtI l G yX8_meetings cX8_meetings 12 .int 4 95 (98 + 9 * k) ad E [.ref (ad 0), .int x, .int a, .int p, .int q, .int v] (fun r E' => MEp ic md k (TTz ic md rf rto ron rat rbe rtd rm fv kn.toInt) x.toInt a.toInt p.toInt q.toInt v.toInt r.toInt ∧ JZ l G ad k (ZCl G ad k ic md rf rto ron rat rbe rtd rm fv) (ZYc G ad k ic md rf rto ron rat rbe rtd rm fv) E0 E') := by
  refine CtI.of (by decide) (Nat.le_of_ble_eq_true rfl) (fun X A C => ?_)
  refine v_sub (lv' := [(0, .ref (ad 0)), (1, .int x), (2, .int a), (3, .int p), (4, .int q), (5, .int v)]) [0, 1, 2, 3, 4, 5] rfl ?_
  obtain ⟨ms, ld, ys, hC1, hC2, hC3, hC4, hC5, hP, hF⟩ := id hC
  have hcy := cal_y hP
  have hk5 := hJ.1.1
  refine v_aload_n C 0 dX8_meetings_0 rfl rfl ?_
  refine v_iload_n C 1 dX8_meetings_1 rfl rfl ?_
  refine v_cVq C dX8_meetings_2 lX8_153 mX8_freshZone 0 (by omega) hE0 (by decide) rfl (tq_freshZone l G ad hJ x) ⟨by decide, by decide⟩ rfl (Nat.le_of_ble_eq_true rfl) ⟨Nat.zero_le _, Nat.zero_le _⟩ (fun r0 E1 hp0 => ?_)
  obtain ⟨hp0, hJ1⟩ := hp0
  have hlow : ∀ j, j < 45 → E1 j = E j := fun j hj => (hJ1.1.low hj).trans (hJ.1.low hj).symm
  have cc1 := (hlow 1 (by decide)).trans hC1
  have cc2 := (hlow 2 (by decide)).trans hC2
  have cc3 := (hlow 3 (by decide)).trans hC3
  have cc4 := (hlow 4 (by decide)).trans hC4
  have cc5 := (hlow 5 (by decide)).trans hC5
  have cc0 := (hlow 0 (by decide)).trans hE0
  rcases hp0 with ⟨hno, rfl⟩ | ⟨i, hi, hk, rfl, io1, hE01, hY⟩
  · refine v_astoreN (lv' := [(0, .ref (ad 0)), (1, .int x), (2, .int a), (3, .int p), (4, .int q), (5, .int v), (6, .null)]) C [1, 2, 3, 4, 5, 6, 0] dX8_meetings_5 (by decide) rfl ?_
    refine v_aloadN C 6 dX8_meetings_7 rfl ?_
    refine v_ifnullN C 40 dX8_meetings_9 (by decide) ?_
    refine v_iconst (v := (-1)) C dX8_meetings_40 (by decide) ?_
    exact v_ret C dX8_meetings_41 rfl rfl ⟨Or.inl ⟨by unfold okME; omega, by decide⟩, hJ1⟩
  · have hio : io1 7 = kn := (ob_in (hE01.symm.trans cc0) (q := 7) (by decide) rfl).trans hkn
    have hYb := hY i hk rfl
    rw [hio] at hYb
    obtain ⟨b, eb⟩ : ∃ q : Nat, q = 98 + 9 * i := ⟨_, rfl⟩
    rw [← eb] at hYb ⊢
    obtain ⟨T, hT⟩ : ∃ T : TST, T = (TTz ic md rf rto ron rat rbe rtd rm fv kn.toInt) i := ⟨_, rfl⟩
    rw [← hT] at hYb
    obtain ⟨ib, ss, se, os, c, hB, h6, h7, h8, hc, hcT, hZ, hS⟩ := hYb
    have hb : b + 9 ≤ 98 + 9 * k := by omega
    have hc8 := hS.1
    refine v_astore (lv' := [(0, .ref (ad 0)), (1, .int x), (2, .int a), (3, .int p), (4, .int q), (5, .int v), (6, .ref (ad b))]) C [1, 2, 3, 4, 5, 6, 0] dX8_meetings_5 (by decide) rfl ?_
    refine v_aload C 6 dX8_meetings_7 rfl ?_
    refine v_ifnull C dX8_meetings_9 ?_
    refine v_iload_n C 2 dX8_meetings_12 rfl rfl ?_
    refine b_if_lt C 40 dX8_meetings_13 (by decide) (rfl : Int32.toInt a = _) (fun c1 => ?_) (fun c1 => ?_)
    · refine v_iconst (v := (-1)) C dX8_meetings_40 (by decide) ?_
      exact v_ret C dX8_meetings_41 rfl rfl ⟨Or.inl ⟨by unfold okME; omega, by decide⟩, hJ1⟩
    · refine v_iload_n C 2 dX8_meetings_16 rfl rfl ?_
      refine v_bipush (v := 10) C dX8_meetings_17 (by decide) ?_
      refine v_idiv C dX8_meetings_19 (by decide) ?_
      refine v_top (fun x2 ex2 => ?_)
      have hx2 : x2.toInt = (a.toInt / 10) := by rw [ex2]; exact ti_div (rfl : Int32.toInt a = _) (show (10 : Int32).toInt = 10 by decide) (by omega) (by omega)
      refine v_cSp C dX8_meetings_20 lX8_136 mX8_isMinute (c_isMinute l G _ ad _ x2) ⟨by decide, by decide⟩ rfl (Nat.le_of_ble_eq_true rfl) ⟨Nat.zero_le _, Nat.zero_le _⟩ (fun r3 hp4 => ?_)
      rcases hp4 with ⟨rfl, hp4⟩ | ⟨rfl, hp4⟩
      · rw [hx2] at hp4
        refine b_if_eq C 40 dX8_meetings_23 (by decide) (show (1 : Int32).toInt = 1 by decide) (fun c5 => absurd c5 (by decide)) (fun c5 => ?_)
        refine v_aload_n C 0 dX8_meetings_26 rfl rfl ?_
        refine v_getr C 0 dX8_meetings_27 fX8_12 (by omega) cc0 rfl rfl ?_
        refine v_iload_n C 2 dX8_meetings_30 rfl rfl ?_
        refine v_bipush (v := 10) C dX8_meetings_31 (by decide) ?_
        refine v_irem C dX8_meetings_33 (by decide) ?_
        refine v_top (fun x6 ex6 => ?_)
        have hx6 : x6.toInt = (a.toInt % 10) := by rw [ex6]; exact ti_rem (rfl : Int32.toInt a = _) (show (10 : Int32).toInt = 10 by decide) (by omega) (by omega)
        refine v_cVp C dX8_meetings_34 lX8_116 mX0_isWeekday 1 (by omega) cc1 (by decide) rfl (c_isWeekday l G _ ad _ (by omega) cc1 cc2 cc3 cc4 cc5 hP hF x6) ⟨by decide, by decide⟩ rfl (Nat.le_of_ble_eq_true rfl) ⟨Nat.zero_le _, Nat.zero_le _⟩ (fun r7 hp8 => ?_)
        rcases hp8 with ⟨rfl, hp8⟩ | ⟨rfl, hp8⟩
        · rw [hx6] at hp8
          refine b_if_ne C 42 dX8_meetings_37 (by decide) (show (1 : Int32).toInt = 1 by decide) (fun c9 => ?_) (fun c9 => absurd c9 (by decide))
          refine v_aload_n C 0 dX8_meetings_42 rfl rfl ?_
          refine v_getr C 0 dX8_meetings_43 fX8_12 (by omega) cc0 rfl rfl ?_
          refine v_iload_n C 3 dX8_meetings_46 rfl rfl ?_
          refine v_cVp C dX8_meetings_47 lX8_99 mX0_has 1 (by omega) cc1 (by decide) rfl (c_has l G _ ad _ (by omega) cc1 cc2 cc3 cc4 cc5 hP hF p) ⟨by decide, by decide⟩ rfl (Nat.le_of_ble_eq_true rfl) ⟨Nat.zero_le _, Nat.zero_le _⟩ (fun r10 hp11 => ?_)
          rcases hp11 with ⟨rfl, hp11⟩ | ⟨rfl, hp11⟩
          · refine b_if_eq C 92 dX8_meetings_50 (by decide) (show (1 : Int32).toInt = 1 by decide) (fun c12 => absurd c12 (by decide)) (fun c12 => ?_)
            refine v_aload_n C 0 dX8_meetings_53 rfl rfl ?_
            refine v_getr C 0 dX8_meetings_54 fX8_12 (by omega) cc0 rfl rfl ?_
            refine v_iload C 4 dX8_meetings_57 rfl ?_
            refine v_cVp C dX8_meetings_59 lX8_99 mX0_has 1 (by omega) cc1 (by decide) rfl (c_has l G _ ad _ (by omega) cc1 cc2 cc3 cc4 cc5 hP hF q) ⟨by decide, by decide⟩ rfl (Nat.le_of_ble_eq_true rfl) ⟨Nat.zero_le _, Nat.zero_le _⟩ (fun r13 hp14 => ?_)
            rcases hp14 with ⟨rfl, hp14⟩ | ⟨rfl, hp14⟩
            · refine b_if_eq C 92 dX8_meetings_62 (by decide) (show (1 : Int32).toInt = 1 by decide) (fun c15 => absurd c15 (by decide)) (fun c15 => ?_)
              refine v_iload C 4 dX8_meetings_65 rfl ?_
              refine v_iload_n C 3 dX8_meetings_67 rfl rfl ?_
              refine b_icmp_lt C 92 dX8_meetings_68 (by decide) (rfl : Int32.toInt q = _) (rfl : Int32.toInt p = _) (fun c16 => ?_) (fun c16 => ?_)
              · refine v_iconst (v := (-1)) C dX8_meetings_92 (by decide) ?_
                exact v_ret C dX8_meetings_93 rfl rfl ⟨Or.inl ⟨by unfold okME; omega, by decide⟩, hJ1⟩
              · refine v_iload C 4 dX8_meetings_71 rfl ?_
                refine v_iload_n C 3 dX8_meetings_73 rfl rfl ?_
                refine v_isub C dX8_meetings_74 ?_
                refine v_top (fun x17 ex17 => ?_)
                have hx17 : x17.toInt = (q.toInt - p.toInt) := by rw [ex17]; exact ti_sub (rfl : Int32.toInt q = _) (rfl : Int32.toInt p = _) (by omega) (by omega)
                refine v_sipush (v := 4000) C dX8_meetings_75 (by decide) ?_
                refine b_icmp_gt C 92 dX8_meetings_78 (by decide) hx17 (show (4000 : Int32).toInt = 4000 by decide) (fun c18 => ?_) (fun c18 => ?_)
                · refine v_iconst (v := (-1)) C dX8_meetings_92 (by decide) ?_
                  exact v_ret C dX8_meetings_93 rfl rfl ⟨Or.inl ⟨by unfold okME; omega, by decide⟩, hJ1⟩
                · refine v_iload C 5 dX8_meetings_81 rfl ?_
                  refine b_if_lt C 92 dX8_meetings_83 (by decide) (rfl : Int32.toInt v = _) (fun c19 => ?_) (fun c19 => ?_)
                  · refine v_iconst (v := (-1)) C dX8_meetings_92 (by decide) ?_
                    exact v_ret C dX8_meetings_93 rfl rfl ⟨Or.inl ⟨by unfold okME; omega, by decide⟩, hJ1⟩
                  · refine v_iload C 5 dX8_meetings_86 rfl ?_
                    refine v_iconst (v := 2) C dX8_meetings_88 (by decide) ?_
                    refine b_icmp_le C 94 dX8_meetings_89 (by decide) (rfl : Int32.toInt v = _) (show (2 : Int32).toInt = 2 by decide) (fun c20 => ?_) (fun c20 => ?_)
                    · obtain ⟨P, hP0⟩ : ∃ P : Nat, p.toInt = (P : Int) := ⟨p.toInt.toNat, by omega⟩
                      have hwb := (cal_b hP).2.2.2
                      refine v_iconst (v := 1) C dX8_meetings_94 (by decide) ?_
                      refine v_aload_n C 0 dX8_meetings_95 rfl rfl ?_
                      refine v_getr C 0 dX8_meetings_96 fX8_12 (by omega) cc0 rfl rfl ?_
                      refine v_geti (v := ic 7) C 1 dX8_meetings_99 fX8_83 (by omega) cc1 rfl rfl ?_
                      refine v_mmax C dX8_meetings_102 lX8_268 mJ9_max_7cf53.2.2.1 mJ9_max_7cf53.2.1 mJ9_max_7cf53.1 ⟨by decide, Nat.le_of_ble_eq_true rfl⟩ ⟨Nat.zero_le _, Nat.zero_le _⟩ ?_
                      refine v_top (fun x21 ex21 => ?_)
                      have hx21 : 1 ≤ x21.toInt ∧ (ic 7).toInt ≤ x21.toInt ∧ (x21.toInt = 1 ∨ x21.toInt = (ic 7).toInt) := by rw [ex21]; exact mmax_b (show (1 : Int32).toInt = 1 by decide) (rfl : Int32.toInt (ic 7) = _)
                      have hst : x21.toInt = (ic 7).toInt := by omega
                      refine v_istore (lv' := [(0, .ref (ad 0)), (1, .int x), (2, .int a), (3, .int p), (4, .int q), (5, .int v), (6, .ref (ad b)), (7, .int x21)]) C [1, 2, 3, 4, 5, 6, 7, 0] dX8_meetings_105 (by decide) rfl ?_
                      refine v_iload_n C 3 dX8_meetings_107 rfl rfl ?_
                      refine v_iload_n C 2 dX8_meetings_108 rfl rfl ?_
                      refine v_bipush (v := 10) C dX8_meetings_109 (by decide) ?_
                      refine v_irem C dX8_meetings_111 (by decide) ?_
                      refine v_top (fun x22 ex22 => ?_)
                      have hx22 : x22.toInt = (a.toInt % 10) := by rw [ex22]; exact ti_rem (rfl : Int32.toInt a = _) (show (10 : Int32).toInt = 10 by decide) (by omega) (by omega)
                      refine v_aload_n C 0 dX8_meetings_112 rfl rfl ?_
                      refine v_getr C 0 dX8_meetings_113 fX8_12 (by omega) cc0 rfl rfl ?_
                      refine v_iload_n C 3 dX8_meetings_116 rfl rfl ?_
                      refine v_cVp C dX8_meetings_117 lX8_102 mX0_weekdayOf 1 (by omega) cc1 (by decide) rfl (c_weekdayOf l G _ ad _ (by omega) cc1 cc2 cc3 cc4 cc5 hP hF p (by omega) (by omega)) ⟨by decide, by decide⟩ rfl (Nat.le_of_ble_eq_true rfl) ⟨Nat.zero_le _, Nat.zero_le _⟩ (fun r23 hp24 => ?_)
                      rw [hP0] at hp24
                      have hmb := mod_b (a := (P : Int) + (ic 8).toInt) (b := (ic 7).toInt) (by omega)
                      refine v_isub C dX8_meetings_120 ?_
                      refine v_top (fun x25 ex25 => ?_)
                      have hx25 : x25.toInt = ((a.toInt % 10) - (((P : Int) + (ic 8).toInt) % (ic 7).toInt)) := by rw [ex25]; exact ti_sub hx22 hp24 (by omega) (by omega)
                      refine v_iload C 7 dX8_meetings_121 rfl ?_
                      refine v_cSp C dX8_meetings_123 lX8_273 mX8_rest (c_rest l G _ ad _ x25 x21) ⟨by decide, by decide⟩ rfl (Nat.le_of_ble_eq_true rfl) ⟨Nat.zero_le _, Nat.zero_le _⟩ (fun r26 hp27 => ?_)
                      rw [if_pos (by omega), hx25, hst] at hp27
                      have hmb2 := mod_b (a := ((a.toInt % 10) - (((P : Int) + (ic 8).toInt) % (ic 7).toInt))) (b := (ic 7).toInt) (by omega)
                      obtain ⟨n0, hn0⟩ : ∃ n0 : Nat, (n0 : Int) = ((a.toInt % 10) - (((P : Int) + (ic 8).toInt) % (ic 7).toInt)) % (ic 7).toInt := ⟨_, Int.toNat_of_nonneg hmb2.1⟩
                      rw [← hn0] at hp27 hmb2
                      have hf0 : ((P : Int) + (n0 : Int) + (ic 8).toInt) % (ic 7).toInt = a.toInt % 10 := by rw [hn0]; exact md_first (by omega) (by omega)
                      have hm0 : MTn ic T a.toInt (P : Int) q.toInt v.toInt n0 = 0 := MTn_first (by omega) hf0 (by omega)
                      refine v_iadd C dX8_meetings_126 ?_
                      refine v_top (fun x28 ex28 => ?_)
                      have hx28 : x28.toInt = ((P : Int) + (n0 : Int)) := by rw [ex28]; exact ti_add hP0 hp27 (by omega) (by omega)
                      refine v_istore (lv' := [(0, .ref (ad 0)), (1, .int x), (2, .int a), (3, .int p), (4, .int q), (5, .int v), (6, .ref (ad b)), (7, .int x21), (8, .int x28)]) C [1, 2, 3, 4, 5, 6, 7, 8, 0] dX8_meetings_127 (by decide) rfl ?_
                      refine v_iconst (v := 0) C dX8_meetings_129 (by decide) ?_
                      refine v_istore (lv' := [(0, .ref (ad 0)), (1, .int x), (2, .int a), (3, .int p), (4, .int q), (5, .int v), (6, .ref (ad b)), (7, .int x21), (8, .int x28), (9, .int 0)]) C [1, 2, 3, 4, 5, 6, 7, 8, 9, 0] dX8_meetings_130 (by decide) rfl ?_
                      refine v_iload C 8 dX8_meetings_132 rfl ?_
                      refine v_istore (lv' := [(0, .ref (ad 0)), (1, .int x), (2, .int a), (3, .int p), (4, .int q), (5, .int v), (6, .ref (ad b)), (7, .int x21), (8, .int x28), (9, .int 0), (10, .int x28)]) C [1, 2, 3, 4, 5, 6, 7, 8, 9, 10, 0] dX8_meetings_134 (by decide) rfl ?_
                      have LP29 : ∀ (t : Nat) (m1 : Nat) (y30 : Int32) (d1 : Nat) (y31 : Int32) (E32 : Nat → va_E), (y30.toInt = (m1 : Int)) → (y31.toInt = (d1 : Int)) → (∀ j, E32 j = E1 j) → (P ≤ d1) → ((d1 : Int) ≤ q.toInt + 10) → (m1 ≤ d1) → (((d1 : Int) + (ic 8).toInt) % (ic 7).toInt = a.toInt % 10) → (m1 = MTn ic T a.toInt (P : Int) q.toInt v.toInt (d1 - P)) → q.toInt + 11 - (d1 : Int) < (t : Int) → V X G A 12 (QI X G A (98 + 9 * k) ad (fun r E' => MEp ic md k (TTz ic md rf rto ron rat rbe rtd rm fv kn.toInt) x.toInt a.toInt p.toInt q.toInt v.toInt r.toInt ∧ JZ l G ad k (ZCl G ad k ic md rf rto ron rat rbe rtd rm fv) (ZYc G ad k ic md rf rto ron rat rbe rtd rm fv) E0 E')) (98 + 9 * k) ad 0 0 E32 136 [(2, .int a), (4, .int q), (5, .int v), (6, .ref (ad b)), (7, .int x21), (9, .int y30), (10, .int y31)] [] := by
                        intro t37
                        induction t37 with
                        | zero => intro m1 y30 d1 y31 E32 hy30 hy31 hfr33 hq34 hq35 hq36 hmod hcnt hm39; exfalso; omega
                        | succ t37 ih38 =>
                          intro m1 y30 d1 y31 E32 hy30 hy31 hfr33 hq34 hq35 hq36 hmod hcnt hm39
                          have hE32_0 := (hfr33 0 ).trans cc0
                          have hE32_1 := (hfr33 1 ).trans cc1
                          have hE32_b := (hfr33 b ).trans hB
                          have hE32_b6 := (hfr33 (b + 6) ).trans h6
                          have hE32_b7 := (hfr33 (b + 7) ).trans h7
                          have hE32_b8 := (hfr33 (b + 8) ).trans h8
                          refine v_iload C 6 dX8_meetings_136 rfl ?_
                          refine v_iload C 1 dX8_meetings_138 rfl ?_
                          refine b_icmp_gt C 205 dX8_meetings_140 (by decide) hy31 (rfl : Int32.toInt q = _) (fun c40 => ?_) (fun c40 => ?_)
                          · refine v_iload C 5 dX8_meetings_205 rfl ?_
                            have hEE : E32 = E1 := funext (fun j => hfr33 j)
                            have hall : m1 = MTn ic T a.toInt (P : Int) q.toInt v.toInt (q.toInt - (P : Int) + 1).toNat := by rw [hcnt]; exact MTn_end (by omega) (by omega)
                            exact v_ret C dX8_meetings_207 rfl rfl ⟨Or.inr ⟨i, hi, by unfold okME; omega, by rw [← hT, hP0, hy30, ← hall]⟩, by rw [hEE]; exact hJ1⟩
                          · refine v_iload C 2 dX8_meetings_143 rfl ?_
                            refine v_iconst (v := 2) C dX8_meetings_145 (by decide) ?_
                            refine b_icmp_ne C 155 dX8_meetings_146 (by decide) (rfl : Int32.toInt v = _) (show (2 : Int32).toInt = 2 by decide) (fun c41 => ?_) (fun c41 => ?_)
                            · refine v_aload C 3 dX8_meetings_155 rfl ?_
                              refine v_iload C 6 dX8_meetings_157 rfl ?_
                              refine v_sipush (v := 1440) C dX8_meetings_159 (by decide) ?_
                              refine v_imul C dX8_meetings_162 ?_
                              refine v_top (fun x42 ex42 => ?_)
                              have hx42 : x42.toInt = ((d1 : Int) * 1440) := by rw [ex42]; exact ti_mul hy31 (show (1440 : Int32).toInt = 1440 by decide) (by omega) (by omega)
                              refine v_iload_n C 0 dX8_meetings_163 rfl rfl ?_
                              refine v_bipush (v := 10) C dX8_meetings_164 (by decide) ?_
                              refine v_idiv C dX8_meetings_166 (by decide) ?_
                              refine v_top (fun x43 ex43 => ?_)
                              have hx43 : x43.toInt = (a.toInt / 10) := by rw [ex43]; exact ti_div (rfl : Int32.toInt a = _) (show (10 : Int32).toInt = 10 by decide) (by omega) (by omega)
                              refine v_iadd C dX8_meetings_167 ?_
                              refine v_top (fun x44 ex44 => ?_)
                              have hx44 : x44.toInt = (((d1 : Int) * 1440) + (a.toInt / 10)) := by rw [ex44]; exact ti_add hx42 hx43 (by omega) (by omega)
                              refine v_cVp C dX8_meetings_168 lX8_171 mX6_momentsOf b (by omega) hE32_b (by decide) rfl (z_moments l G (98 + 9 * k) ad _ b hb hE32_b hE32_b6 hE32_b7 hE32_b8 hc hS x44 (by omega)) ⟨by decide, by decide⟩ rfl (Nat.le_of_ble_eq_true rfl) ⟨Nat.zero_le _, Nat.zero_le _⟩ (fun r45 hp46 => ?_)
                              rw [cntH_T hcT hZ hS (c + 1) (Nat.le_refl _), hcT, hx44, show (((d1 : Int) * 1440) + (a.toInt / 10)) = 1440 * (d1 : Int) + a.toInt / 10 by omega] at hp46
                              refine v_istore (lv' := [(2, .int a), (4, .int q), (5, .int v), (6, .ref (ad b)), (7, .int x21), (9, .int y30), (10, .int y31), (11, .int r45)]) C [1, 2, 3, 4, 5, 6, 7, 0] dX8_meetings_171 (by decide) rfl ?_
                              refine v_iload C 2 dX8_meetings_173 rfl ?_
                              refine b_if_ne C 186 dX8_meetings_175 (by decide) (rfl : Int32.toInt v = _) (fun c47 => ?_) (fun c47 => ?_)
                              · refine v_iload C 7 dX8_meetings_186 rfl ?_
                                refine v_iconst (v := 1) C dX8_meetings_188 (by decide) ?_
                                refine b_icmp_le C 195 dX8_meetings_189 (by decide) hp46 (show (1 : Int32).toInt = 1 by decide) (fun c48 => ?_) (fun c48 => ?_)
                                · refine v_iload C 6 dX8_meetings_195 rfl ?_
                                  refine v_iload C 4 dX8_meetings_197 rfl ?_
                                  refine v_iadd C dX8_meetings_199 ?_
                                  refine v_top (fun x49 ex49 => ?_)
                                  have hx49 : x49.toInt = ((d1 : Int) + (ic 7).toInt) := by rw [ex49]; exact ti_add hy31 hst (by omega) (by omega)
                                  refine v_istore (lv' := [(2, .int a), (4, .int q), (5, .int v), (6, .ref (ad b)), (7, .int x21), (9, .int y30), (10, .int x49), (11, .int r45)]) C [1, 2, 3, 4, 5, 6, 0, 7] dX8_meetings_200 (by decide) rfl ?_
                                  refine v_goto C 136 dX8_meetings_202 (by decide) ?_
                                  refine v_sub (lv' := [(2, .int a), (4, .int q), (5, .int v), (6, .ref (ad b)), (7, .int x21), (9, .int y30), (10, .int x49)]) [0, 1, 2, 3, 4, 5, 6] rfl ?_
                                  exact ih38 m1 y30 (d1 + (ic 7).toInt.toNat) x49 E32 (show Int32.toInt y30 = ((m1 : Nat) : Int) by have := hy30; omega) (show Int32.toInt x49 = ((d1 + (ic 7).toInt.toNat : Nat) : Int) by have := hx49; omega) (fun j => (hfr33 j )) (by omega) (by omega) (by omega) (by rw [show (((d1 + (ic 7).toInt.toNat : Nat)) : Int) = (d1 : Int) + (ic 7).toInt by omega, md_next]; exact hmod) (by rw [show d1 + (ic 7).toInt.toNat - P = (d1 - P) + (ic 7).toInt.toNat by omega, MTn_pass (D := (d1 : Int)) (by omega) hmod (by omega) (by omega) (by omega)]; omega) (by omega)
                                · obtain ⟨x50, ex50⟩ : ∃ y : Int32, y = y30 + 1 := ⟨_, rfl⟩
                                  have hx50 : x50.toInt = ((m1 : Int) + 1) := by rw [ex50]; exact ti_add hy30 (show (1 : Int32).toInt = 1 by decide) (by omega) (by omega)
                                  refine v_iinc (v := x50) (lv' := [(2, .int a), (4, .int q), (5, .int v), (6, .ref (ad b)), (7, .int x21), (9, .int x50), (10, .int y31), (11, .int r45)]) C 5 [1, 2, 3, 4, 5, 0, 6, 7] dX8_meetings_192 rfl (ex50.symm) (by decide) rfl ?_
                                  refine v_iload C 6 dX8_meetings_195 rfl ?_
                                  refine v_iload C 4 dX8_meetings_197 rfl ?_
                                  refine v_iadd C dX8_meetings_199 ?_
                                  refine v_top (fun x51 ex51 => ?_)
                                  have hx51 : x51.toInt = ((d1 : Int) + (ic 7).toInt) := by rw [ex51]; exact ti_add hy31 hst (by omega) (by omega)
                                  refine v_istore (lv' := [(2, .int a), (4, .int q), (5, .int v), (6, .ref (ad b)), (7, .int x21), (9, .int x50), (10, .int x51), (11, .int r45)]) C [1, 2, 3, 4, 5, 6, 0, 7] dX8_meetings_200 (by decide) rfl ?_
                                  refine v_goto C 136 dX8_meetings_202 (by decide) ?_
                                  refine v_sub (lv' := [(2, .int a), (4, .int q), (5, .int v), (6, .ref (ad b)), (7, .int x21), (9, .int x50), (10, .int x51)]) [0, 1, 2, 3, 4, 5, 6] rfl ?_
                                  exact ih38 (m1 + 1) x50 (d1 + (ic 7).toInt.toNat) x51 E32 (show Int32.toInt x50 = ((m1 + 1 : Nat) : Int) by have := hx50; omega) (show Int32.toInt x51 = ((d1 + (ic 7).toInt.toNat : Nat) : Int) by have := hx51; omega) (fun j => (hfr33 j )) (by omega) (by omega) (by omega) (by rw [show (((d1 + (ic 7).toInt.toNat : Nat)) : Int) = (d1 : Int) + (ic 7).toInt by omega, md_next]; exact hmod) (by rw [show d1 + (ic 7).toInt.toNat - P = (d1 - P) + (ic 7).toInt.toNat by omega, MTn_go (D := (d1 : Int)) (by omega) hmod (by omega) (by omega) (by omega) (by omega)]; omega) (by omega)
                              · refine v_iload C 7 dX8_meetings_178 rfl ?_
                                refine b_if_ne C 195 dX8_meetings_180 (by decide) hp46 (fun c52 => ?_) (fun c52 => ?_)
                                · refine v_iload C 6 dX8_meetings_195 rfl ?_
                                  refine v_iload C 4 dX8_meetings_197 rfl ?_
                                  refine v_iadd C dX8_meetings_199 ?_
                                  refine v_top (fun x53 ex53 => ?_)
                                  have hx53 : x53.toInt = ((d1 : Int) + (ic 7).toInt) := by rw [ex53]; exact ti_add hy31 hst (by omega) (by omega)
                                  refine v_istore (lv' := [(2, .int a), (4, .int q), (5, .int v), (6, .ref (ad b)), (7, .int x21), (9, .int y30), (10, .int x53), (11, .int r45)]) C [1, 2, 3, 4, 5, 6, 0, 7] dX8_meetings_200 (by decide) rfl ?_
                                  refine v_goto C 136 dX8_meetings_202 (by decide) ?_
                                  refine v_sub (lv' := [(2, .int a), (4, .int q), (5, .int v), (6, .ref (ad b)), (7, .int x21), (9, .int y30), (10, .int x53)]) [0, 1, 2, 3, 4, 5, 6] rfl ?_
                                  exact ih38 m1 y30 (d1 + (ic 7).toInt.toNat) x53 E32 (show Int32.toInt y30 = ((m1 : Nat) : Int) by have := hy30; omega) (show Int32.toInt x53 = ((d1 + (ic 7).toInt.toNat : Nat) : Int) by have := hx53; omega) (fun j => (hfr33 j )) (by omega) (by omega) (by omega) (by rw [show (((d1 + (ic 7).toInt.toNat : Nat)) : Int) = (d1 : Int) + (ic 7).toInt by omega, md_next]; exact hmod) (by rw [show d1 + (ic 7).toInt.toNat - P = (d1 - P) + (ic 7).toInt.toNat by omega, MTn_pass (D := (d1 : Int)) (by omega) hmod (by omega) (by omega) (by omega)]; omega) (by omega)
                                · refine v_goto C 192 dX8_meetings_183 (by decide) ?_
                                  obtain ⟨x54, ex54⟩ : ∃ y : Int32, y = y30 + 1 := ⟨_, rfl⟩
                                  have hx54 : x54.toInt = ((m1 : Int) + 1) := by rw [ex54]; exact ti_add hy30 (show (1 : Int32).toInt = 1 by decide) (by omega) (by omega)
                                  refine v_iinc (v := x54) (lv' := [(2, .int a), (4, .int q), (5, .int v), (6, .ref (ad b)), (7, .int x21), (9, .int x54), (10, .int y31), (11, .int r45)]) C 5 [1, 2, 3, 4, 5, 0, 6, 7] dX8_meetings_192 rfl (ex54.symm) (by decide) rfl ?_
                                  refine v_iload C 6 dX8_meetings_195 rfl ?_
                                  refine v_iload C 4 dX8_meetings_197 rfl ?_
                                  refine v_iadd C dX8_meetings_199 ?_
                                  refine v_top (fun x55 ex55 => ?_)
                                  have hx55 : x55.toInt = ((d1 : Int) + (ic 7).toInt) := by rw [ex55]; exact ti_add hy31 hst (by omega) (by omega)
                                  refine v_istore (lv' := [(2, .int a), (4, .int q), (5, .int v), (6, .ref (ad b)), (7, .int x21), (9, .int x54), (10, .int x55), (11, .int r45)]) C [1, 2, 3, 4, 5, 6, 0, 7] dX8_meetings_200 (by decide) rfl ?_
                                  refine v_goto C 136 dX8_meetings_202 (by decide) ?_
                                  refine v_sub (lv' := [(2, .int a), (4, .int q), (5, .int v), (6, .ref (ad b)), (7, .int x21), (9, .int x54), (10, .int x55)]) [0, 1, 2, 3, 4, 5, 6] rfl ?_
                                  exact ih38 (m1 + 1) x54 (d1 + (ic 7).toInt.toNat) x55 E32 (show Int32.toInt x54 = ((m1 + 1 : Nat) : Int) by have := hx54; omega) (show Int32.toInt x55 = ((d1 + (ic 7).toInt.toNat : Nat) : Int) by have := hx55; omega) (fun j => (hfr33 j )) (by omega) (by omega) (by omega) (by rw [show (((d1 + (ic 7).toInt.toNat : Nat)) : Int) = (d1 : Int) + (ic 7).toInt by omega, md_next]; exact hmod) (by rw [show d1 + (ic 7).toInt.toNat - P = (d1 - P) + (ic 7).toInt.toNat by omega, MTn_go (D := (d1 : Int)) (by omega) hmod (by omega) (by omega) (by omega) (by omega)]; omega) (by omega)
                            · obtain ⟨x56, ex56⟩ : ∃ y : Int32, y = y30 + 1 := ⟨_, rfl⟩
                              have hx56 : x56.toInt = ((m1 : Int) + 1) := by rw [ex56]; exact ti_add hy30 (show (1 : Int32).toInt = 1 by decide) (by omega) (by omega)
                              refine v_iinc (v := x56) (lv' := [(2, .int a), (4, .int q), (5, .int v), (6, .ref (ad b)), (7, .int x21), (9, .int x56), (10, .int y31)]) C 5 [1, 2, 3, 4, 5, 0, 6] dX8_meetings_149 rfl (ex56.symm) (by decide) rfl ?_
                              refine v_goto C 195 dX8_meetings_152 (by decide) ?_
                              refine v_iload C 6 dX8_meetings_195 rfl ?_
                              refine v_iload C 4 dX8_meetings_197 rfl ?_
                              refine v_iadd C dX8_meetings_199 ?_
                              refine v_top (fun x57 ex57 => ?_)
                              have hx57 : x57.toInt = ((d1 : Int) + (ic 7).toInt) := by rw [ex57]; exact ti_add hy31 hst (by omega) (by omega)
                              refine v_istore (lv' := [(2, .int a), (4, .int q), (5, .int v), (6, .ref (ad b)), (7, .int x21), (9, .int x56), (10, .int x57)]) C [1, 2, 3, 4, 5, 6, 0] dX8_meetings_200 (by decide) rfl ?_
                              refine v_goto C 136 dX8_meetings_202 (by decide) ?_
                              exact ih38 (m1 + 1) x56 (d1 + (ic 7).toInt.toNat) x57 E32 (show Int32.toInt x56 = ((m1 + 1 : Nat) : Int) by have := hx56; omega) (show Int32.toInt x57 = ((d1 + (ic 7).toInt.toNat : Nat) : Int) by have := hx57; omega) (fun j => (hfr33 j )) (by omega) (by omega) (by omega) (by rw [show (((d1 + (ic 7).toInt.toNat : Nat)) : Int) = (d1 : Int) + (ic 7).toInt by omega, md_next]; exact hmod) (by rw [show d1 + (ic 7).toInt.toNat - P = (d1 - P) + (ic 7).toInt.toNat by omega, MTn_go (D := (d1 : Int)) (by omega) hmod (by omega) (by omega) (by omega) (by omega)]; omega) (by omega)
                      refine v_sub (lv' := [(2, .int a), (4, .int q), (5, .int v), (6, .ref (ad b)), (7, .int x21), (9, .int 0), (10, .int x28)]) [2, 4, 5, 6, 7, 9, 10] rfl ?_
                      exact LP29 100000 0 0 (P + n0) x28 E1 (show Int32.toInt 0 = ((0 : Nat) : Int) by have := (show (0 : Int32).toInt = 0 by decide); omega) (show Int32.toInt x28 = ((P + n0 : Nat) : Int) by have := hx28; omega) (fun j => rfl) (by omega) (by omega) (by omega) (by rw [show (((P + n0 : Nat)) : Int) = (P : Int) + (n0 : Int) by omega]; exact hf0) (by rw [show P + n0 - P = n0 by omega]; exact hm0.symm) (by omega)
                    · refine v_iconst (v := (-1)) C dX8_meetings_92 (by decide) ?_
                      exact v_ret C dX8_meetings_93 rfl rfl ⟨Or.inl ⟨by unfold okME; omega, by decide⟩, hJ1⟩
            · refine b_if_eq C 92 dX8_meetings_62 (by decide) (show (0 : Int32).toInt = 0 by decide) (fun c58 => ?_) (fun c58 => absurd c58 (by decide))
              refine v_iconst (v := (-1)) C dX8_meetings_92 (by decide) ?_
              exact v_ret C dX8_meetings_93 rfl rfl ⟨Or.inl ⟨by unfold okME; omega, by decide⟩, hJ1⟩
          · refine b_if_eq C 92 dX8_meetings_50 (by decide) (show (0 : Int32).toInt = 0 by decide) (fun c59 => ?_) (fun c59 => absurd c59 (by decide))
            refine v_iconst (v := (-1)) C dX8_meetings_92 (by decide) ?_
            exact v_ret C dX8_meetings_93 rfl rfl ⟨Or.inl ⟨by unfold okME; omega, by decide⟩, hJ1⟩
        · rw [hx6] at hp8
          refine b_if_ne C 42 dX8_meetings_37 (by decide) (show (0 : Int32).toInt = 0 by decide) (fun c60 => absurd c60 (by decide)) (fun c60 => ?_)
          refine v_iconst (v := (-1)) C dX8_meetings_40 (by decide) ?_
          exact v_ret C dX8_meetings_41 rfl rfl ⟨Or.inl ⟨by unfold okME; omega, by decide⟩, hJ1⟩
      · rw [hx2] at hp4
        refine b_if_eq C 40 dX8_meetings_23 (by decide) (show (0 : Int32).toInt = 0 by decide) (fun c61 => ?_) (fun c61 => absurd c61 (by decide))
        refine v_iconst (v := (-1)) C dX8_meetings_40 (by decide) ?_
        exact v_ret C dX8_meetings_41 rfl rfl ⟨Or.inl ⟨by unfold okME; omega, by decide⟩, hJ1⟩

