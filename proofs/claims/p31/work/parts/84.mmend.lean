theorem OXm_x {fo fx : Nat → Int32} {m k : Nat} {v : Int32} (h : OXm fo fx m) (hv : 0 ≤ v.toInt ∧ v.toInt ≤ 4) : OXm fo (upd fx k v) m := by
  intro j hj hq
  by_cases q : j = k
  · subst q; simpa [upd] using hv
  · simpa [upd, q] using h j hj hq
theorem OXm_o {fo fx : Nat → Int32} {m k : Nat} {v u : Int32} (h : OXm fo fx m) (hv : v.toInt ≠ 1 ∧ v.toInt ≠ 4) : OXm (upd fo k v) (upd fx k u) m := by
  intro j hj hq
  by_cases q : j = k
  · subst q
    exact absurd (show v.toInt = 1 ∨ v.toInt = 4 by simpa [upd] using hq) (by omega)
  · simp only [upd, q, if_false] at hq ⊢
    exact h j hj hq

set_option maxRecDepth 20000 in
theorem t_X9_isRight (l : Launch) (G : Gl) (ad : Nat → Nat) {n : Nat} {ic md : Nat → Int32} {bd : Nat → Int × Int} {E0 E : Nat → va_E} (hJ : JM G ad n ic md bd PR E0 E) {fo fx : Nat → Int32} {m : Nat} (hfo : E0 89 = aI G 10 fo) (hfx : E0 90 = aI G 10 fx) (hm : m ≤ 10) (hox : OXm fo fx m) (hf32 : (m : Int) ≤ (bd 32).1 ∧ (bd 32).2 ≤ (m : Int)) (hf41 : (0 : Int) ≤ (bd 41).1 ∧ (bd 41).2 ≤ 40000) (x : Int32) (hx : (0 : Int) ≤ x.toInt ∧ x.toInt ≤ 2147483647) (y : Int32) (hlw : ((x.toInt % 10 = 1 ∨ x.toInt % 10 = 2) → x.toInt / 10 ≤ 4)) : CtI l G yX9_isRight cX9_isRight 3 .boolean 10 246 (n) ad E [.ref (ad 68), .int x, .int y] (fun r E' => (r = 0 ∨ r = 1) ∧ JM G ad n ic md (upB bd 35 (0, 8)) PR E0 E') := by
  refine CtI.of (by decide) (Nat.le_of_ble_eq_true rfl) (fun X A C => ?_)
  refine v_sub (lv' := [(0, .ref (ad 68)), (1, .int x), (2, .int y)]) [0, 1, 2] rfl ?_
  have hn := hJ.hn
  have hz16 := hJ.2.2.2.2
  refine v_aload_n C 0 dX9_isRight_0 rfl rfl ?_
  obtain ⟨im5, hM5, hb5⟩ := hJ.1
  have hq5 := hM5.b
  refine v_cVi C dX9_isRight_1 lX9_222 mX9_mixOf 68 (by omega) hM5.2.2.1 (by decide) rfl (t_X9_mixOf l G ad hJ hfo hm (show (m : Int) ≤ (bd 32).1 ∧ (bd 32).2 ≤ (m : Int) by omega)) ⟨by decide, by decide⟩ rfl (Nat.le_of_ble_eq_true rfl) ⟨Nat.zero_le _, Nat.zero_le _⟩ (fun r1 E2 hp3 => ?_)
  rcases hp3 with ⟨hp3, hok, hJ4⟩ | ⟨hp3, hJ4⟩
  · obtain rfl : r1 = (-6 : Int32) := ti_ext (hp3.trans (by decide))
    refine v_bipush (v := (-6)) C dX9_isRight_4 (by decide) ?_
    refine b_icmp_ne C 24 dX9_isRight_6 (by decide) (show ((-6) : Int32).toInt = (-6) by decide) (show ((-6) : Int32).toInt = (-6) by decide) (fun c6 => absurd c6 (by decide)) (fun c6 => ?_)
    refine v_aload_n C 0 dX9_isRight_9 rfl rfl ?_
    refine v_iload_n C 1 dX9_isRight_10 rfl rfl ?_
    refine v_iload_n C 2 dX9_isRight_11 rfl rfl ?_
    obtain ⟨im11, hM11, hb11⟩ := hJ4.1
    have hq11 := hM11.b
    refine v_cVi C dX9_isRight_12 lX9_286 mX9_firstBroken 68 (by omega) hM11.2.2.1 (by decide) rfl (t_X9_firstBroken l G ad hJ4 hfo hfx hm hok hox (by decide) (show (m : Int) ≤ (bd 32).1 ∧ (bd 32).2 ≤ (m : Int) by omega) (show (0 : Int) ≤ (bd 41).1 ∧ (bd 41).2 ≤ 40000 by omega) x (show (0 : Int) ≤ Int32.toInt x ∧ Int32.toInt x ≤ 2147483647 by have := ti_any x; omega) y (by omega)) ⟨by decide, by decide⟩ rfl (Nat.le_of_ble_eq_true rfl) ⟨Nat.zero_le _, Nat.zero_le _⟩ (fun r7 E8 hp9 => ?_)
    obtain ⟨hp9, hJ10⟩ := hp9
    refine v_bipush (v := (-6)) C dX9_isRight_15 (by decide) ?_
    refine b_icmp_ne C 24 dX9_isRight_17 (by decide) (rfl : Int32.toInt r7 = _) (show ((-6) : Int32).toInt = (-6) by decide) (fun c12 => ?_) (fun c12 => ?_)
    · refine v_iconst (v := 0) C dX9_isRight_24 (by decide) ?_
      exact v_ret C dX9_isRight_25 rfl rfl ⟨Or.inl rfl, hJ10.toB (by decide) (by omega) (by omega)⟩
    · refine v_iconst (v := 1) C dX9_isRight_20 (by decide) ?_
      refine v_goto C 25 dX9_isRight_21 (by decide) ?_
      exact v_ret C dX9_isRight_25 rfl rfl ⟨Or.inr rfl, hJ10.toB (by decide) (by omega) (by omega)⟩
  · refine v_bipush (v := (-6)) C dX9_isRight_4 (by decide) ?_
    refine b_icmp_ne C 24 dX9_isRight_6 (by decide) (rfl : Int32.toInt r1 = _) (show ((-6) : Int32).toInt = (-6) by decide) (fun c13 => ?_) (fun c13 => absurd (by have := c13; omega) hp3)
    refine v_iconst (v := 0) C dX9_isRight_24 (by decide) ?_
    exact v_ret C dX9_isRight_25 rfl rfl ⟨Or.inl rfl, hJ4.toB (by decide) (by omega) (by omega)⟩

set_option maxRecDepth 20000 in
theorem t_X9_changeLine (l : Launch) (G : Gl) (ad : Nat → Nat) {n : Nat} {ic md : Nat → Int32} {bd : Nat → Int × Int} {E0 E : Nat → va_E} (hJ : JM G ad n ic md bd PT E0 E) {fo fx : Nat → Int32} {m : Nat} (h89 : E 89 = aI G 10 fo) (h90 : E 90 = aI G 10 fx) (hox : OXm fo fx m) (i : Int32) (hi : (0 : Int) ≤ i.toInt ∧ i.toInt ≤ 9) (u : Int32) (hu : (0 : Int) ≤ u.toInt ∧ u.toInt ≤ 10) : CtI l G yX9_changeLine cX9_changeLine 5 .boolean 1 22 (n) ad E [.ref (ad 68), .int i, .int u] (fun r E' => ((r = 1 ∧ u.toInt ≤ 5) ∨ (r = 0 ∧ (0 : Int) ≤ 1)) ∧ ∃ fo' fx' : Nat → Int32, E' 89 = aI G 10 fo' ∧ E' 90 = aI G 10 fx' ∧ OXm fo' fx' m ∧ JM G ad n ic md bd PT E0 E') := by
  refine CtI.of (by decide) (Nat.le_of_ble_eq_true rfl) (fun X A C => ?_)
  refine v_sub (lv' := [(0, .ref (ad 68)), (1, .int i), (2, .int u)]) [0, 1, 2] rfl ?_
  have hn := hJ.hn
  have hz16 := hJ.2.2.2.2
  refine v_iload_n C 2 dX9_changeLine_0 rfl rfl ?_
  refine v_istore_n (lv' := [(0, .ref (ad 68)), (1, .int i), (2, .int u), (3, .int u)]) C [1, 2, 3, 0] dX9_changeLine_1 rfl (by decide) rfl ?_
  refine v_aload_n C 0 dX9_changeLine_2 rfl rfl ?_
  obtain ⟨im1, hM1, hb1⟩ := hJ.1
  have hq1 := hM1.b
  refine v_getr C 68 dX9_changeLine_3 fX9_88 (by omega) hM1.2.2.1 rfl rfl ?_
  refine v_iload_n C 1 dX9_changeLine_6 rfl rfl ?_
  refine v_ald (v := fo (i.toInt).toNat) C 89 dX9_changeLine_7 (by omega) h89 (ti_in (rfl : Int32.toInt i = _) (by omega) (by omega)) (by rw [ti_cl (rfl : Int32.toInt i = _)]) ?_
  refine v_iconst (v := 4) C dX9_changeLine_8 (by decide) ?_
  refine b_icmp_ne C 35 dX9_changeLine_9 (by decide) (rfl : Int32.toInt (fo (i.toInt).toNat) = _) (show (4 : Int32).toInt = 4 by decide) (fun c2 => ?_) (fun c2 => ?_)
  · refine v_aload_n C 0 dX9_changeLine_35 rfl rfl ?_
    refine v_getr C 68 dX9_changeLine_36 fX9_88 (by omega) hM1.2.2.1 rfl rfl ?_
    refine v_iload_n C 1 dX9_changeLine_39 rfl rfl ?_
    refine v_ald (v := fo (i.toInt).toNat) C 89 dX9_changeLine_40 (by omega) h89 (ti_in (rfl : Int32.toInt i = _) (by omega) (by omega)) (by rw [ti_cl (rfl : Int32.toInt i = _)]) ?_
    refine v_iconst (v := 4) C dX9_changeLine_41 (by decide) ?_
    refine b_icmp_eq C 55 dX9_changeLine_42 (by decide) (rfl : Int32.toInt (fo (i.toInt).toNat) = _) (show (4 : Int32).toInt = 4 by decide) (fun c3 => ?_) (fun c3 => ?_)
    · refine v_iconst (v := 0) C dX9_changeLine_55 (by decide) ?_
      refine v_istore (lv' := [(0, .ref (ad 68)), (1, .int i), (2, .int u), (3, .int u), (4, .int 0)]) C [1, 2, 3, 4, 0] dX9_changeLine_56 (by decide) rfl ?_
      have LP4 : ∀ (t : Nat) (y5 : Int32) (y6 : Int32), ((0 : Int) ≤ y5.toInt ∧ y5.toInt ≤ 10) → ((0 : Int) ≤ y6.toInt ∧ y6.toInt ≤ 5) → (u.toInt ≤ y5.toInt + y6.toInt + 1) → 6 - y6.toInt < (t : Int) → V X G A 5 (QI X G A (n) ad (fun r E' => ((r = 1 ∧ u.toInt ≤ 5) ∨ (r = 0 ∧ (0 : Int) ≤ 1)) ∧ ∃ fo' fx' : Nat → Int32, E' 89 = aI G 10 fo' ∧ E' 90 = aI G 10 fx' ∧ OXm fo' fx' m ∧ JM G ad n ic md bd PT E0 E')) n ad 0 0 E 58 [(0, .ref (ad 68)), (1, .int i), (3, .int y5), (4, .int y6)] [] := by
        intro t12
        induction t12 with
        | zero => intro y5 y6 hy5 hy6 hq7 hm11; exfalso; omega
        | succ t12 ih10 =>
          intro y5 y6 hy5 hy6 hq7 hm11
          refine v_iload C 3 dX9_changeLine_58 rfl ?_
          refine v_aload_n C 0 dX9_changeLine_60 rfl rfl ?_
          refine v_geti (v := im1 16) C 68 dX9_changeLine_61 fX9_135 (by omega) hM1.2.2.1 rfl rfl ?_
          have him1_16r : (bd 16).1 ≤ (im1 16).toInt ∧ (im1 16).toInt ≤ (bd 16).2 := hb1 16
          have him1_16 : (0 : Int) ≤ (im1 16).toInt ∧ (im1 16).toInt ≤ 5 := by omega
          refine b_icmp_ge C 101 dX9_changeLine_64 (by decide) (rfl : Int32.toInt y6 = _) (rfl : Int32.toInt (im1 16) = _) (fun c13 => ?_) (fun c13 => ?_)
          · refine v_iconst (v := 0) C dX9_changeLine_101 (by decide) ?_
            exact v_ret C dX9_changeLine_102 rfl rfl ⟨Or.inr ⟨rfl, by omega⟩, _, _, h89, h90, hox, hJ⟩
          · refine v_iload C 3 dX9_changeLine_67 rfl ?_
            refine v_aload_n C 0 dX9_changeLine_69 rfl rfl ?_
            refine v_getr C 68 dX9_changeLine_70 fX9_91 (by omega) hM1.2.2.1 rfl rfl ?_
            refine v_iload_n C 1 dX9_changeLine_73 rfl rfl ?_
            refine v_ald (v := fx (i.toInt).toNat) C 90 dX9_changeLine_74 (by omega) h90 (ti_in (rfl : Int32.toInt i = _) (by omega) (by omega)) (by rw [ti_cl (rfl : Int32.toInt i = _)]) ?_
            refine b_icmp_eq C 95 dX9_changeLine_75 (by decide) (rfl : Int32.toInt y6 = _) (rfl : Int32.toInt (fx (i.toInt).toNat) = _) (fun c14 => ?_) (fun c14 => ?_)
            · obtain ⟨x15, ex15⟩ : ∃ y : Int32, y = y6 + 1 := ⟨_, rfl⟩
              have hx15 : x15.toInt = (y6.toInt + 1) := by rw [ex15]; exact ti_add (rfl : Int32.toInt y6 = _) (show (1 : Int32).toInt = 1 by decide) (by omega) (by omega)
              refine v_iinc (v := x15) (lv' := [(0, .ref (ad 68)), (1, .int i), (3, .int y5), (4, .int x15)]) C 3 [1, 2, 3, 0] dX9_changeLine_95 rfl (ex15.symm) (by decide) rfl ?_
              refine v_goto C 58 dX9_changeLine_98 (by decide) ?_
              exact ih10 y5 x15  (by have := hx15; omega) (by have := hx15; omega) (by have := hx15; omega) (by have := hx15; omega)
            · refine v_iload_n C 2 dX9_changeLine_78 rfl rfl ?_
              refine b_if_ne C 92 dX9_changeLine_79 (by decide) (rfl : Int32.toInt y5 = _) (fun c16 => ?_) (fun c16 => ?_)
              · obtain ⟨x17, ex17⟩ : ∃ y : Int32, y = y5 + (-1) := ⟨_, rfl⟩
                have hx17 : x17.toInt = (y5.toInt + (-1)) := by rw [ex17]; exact ti_add (rfl : Int32.toInt y5 = _) (show ((-1) : Int32).toInt = (-1) by decide) (by omega) (by omega)
                refine v_iinc (v := x17) (lv' := [(0, .ref (ad 68)), (1, .int i), (3, .int x17), (4, .int y6)]) C 2 [1, 2, 0, 3] dX9_changeLine_92 rfl (ex17.symm) (by decide) rfl ?_
                obtain ⟨x18, ex18⟩ : ∃ y : Int32, y = y6 + 1 := ⟨_, rfl⟩
                have hx18 : x18.toInt = (y6.toInt + 1) := by rw [ex18]; exact ti_add (rfl : Int32.toInt y6 = _) (show (1 : Int32).toInt = 1 by decide) (by omega) (by omega)
                refine v_iinc (v := x18) (lv' := [(0, .ref (ad 68)), (1, .int i), (3, .int x17), (4, .int x18)]) C 3 [1, 2, 3, 0] dX9_changeLine_95 rfl (ex18.symm) (by decide) rfl ?_
                refine v_goto C 58 dX9_changeLine_98 (by decide) ?_
                exact ih10 x17 x18  (by have := hx17; have := hx18; omega) (by have := hx17; have := hx18; omega) (by have := hx17; have := hx18; omega) (by have := hx17; have := hx18; omega)
              · refine v_aload_n C 0 dX9_changeLine_82 rfl rfl ?_
                refine v_getr C 68 dX9_changeLine_83 fX9_91 (by omega) hM1.2.2.1 rfl rfl ?_
                refine v_iload_n C 1 dX9_changeLine_86 rfl rfl ?_
                refine v_iload C 3 dX9_changeLine_87 rfl ?_
                refine v_ast C 90 dX9_changeLine_89 (by omega) h90 (ti_in (rfl : Int32.toInt i = _) (by omega) (by omega)) (fun E19 hE19_90 oE19 => ?_)
                rw [ti_cl (rfl : Int32.toInt i = _)] at hE19_90
                have hE19_89 := (oE19 89 (by decide)).trans h89
                have hE19_68 := (oE19 68 (by decide)).trans hM1.2.2.1
                have hJ20 := hJ.with (hJ.2.1.setA rfl (by unfold PT; omega) (fun q => ti_any (fx q)) (ti_any y6) hE19_90 oE19) (oE19 68 (by decide)) (oE19 69 (by decide)) (oE19 70 (by decide))
                have hM21 := hM1.of (oE19 68 (by decide)) (oE19 69 (by decide)) (oE19 70 (by decide))
                refine v_iconst (v := 1) C dX9_changeLine_90 (by decide) ?_
                exact v_ret C dX9_changeLine_91 rfl rfl ⟨Or.inl ⟨rfl, by omega⟩, _, _, hE19_89, hE19_90, OXm_x hox (by omega), hJ20⟩
      refine v_sub (lv' := [(0, .ref (ad 68)), (1, .int i), (3, .int u), (4, .int 0)]) [0, 1, 3, 4] rfl ?_
      exact LP4 100000 u 0  (by have := (show (0 : Int32).toInt = 0 by decide); omega) (by have := (show (0 : Int32).toInt = 0 by decide); omega) (by have := (show (0 : Int32).toInt = 0 by decide); omega) (by have := (show (0 : Int32).toInt = 0 by decide); omega)
    · refine v_aload_n C 0 dX9_changeLine_45 rfl rfl ?_
      refine v_getr C 68 dX9_changeLine_46 fX9_88 (by omega) hM1.2.2.1 rfl rfl ?_
      refine v_iload_n C 1 dX9_changeLine_49 rfl rfl ?_
      refine v_ald (v := fo (i.toInt).toNat) C 89 dX9_changeLine_50 (by omega) h89 (ti_in (rfl : Int32.toInt i = _) (by omega) (by omega)) (by rw [ti_cl (rfl : Int32.toInt i = _)]) ?_
      refine v_iconst (v := 1) C dX9_changeLine_51 (by decide) ?_
      refine b_icmp_ne C 103 dX9_changeLine_52 (by decide) (rfl : Int32.toInt (fo (i.toInt).toNat) = _) (show (1 : Int32).toInt = 1 by decide) (fun c22 => ?_) (fun c22 => ?_)
      · refine v_aload_n C 0 dX9_changeLine_103 rfl rfl ?_
        refine v_getr C 68 dX9_changeLine_104 fX9_88 (by omega) hM1.2.2.1 rfl rfl ?_
        refine v_iload_n C 1 dX9_changeLine_107 rfl rfl ?_
        refine v_ald (v := fo (i.toInt).toNat) C 89 dX9_changeLine_108 (by omega) h89 (ti_in (rfl : Int32.toInt i = _) (by omega) (by omega)) (by rw [ti_cl (rfl : Int32.toInt i = _)]) ?_
        refine v_iconst (v := 5) C dX9_changeLine_109 (by decide) ?_
        refine b_icmp_ne C 163 dX9_changeLine_110 (by decide) (rfl : Int32.toInt (fo (i.toInt).toNat) = _) (show (5 : Int32).toInt = 5 by decide) (fun c23 => ?_) (fun c23 => ?_)
        · refine v_aload_n C 0 dX9_changeLine_163 rfl rfl ?_
          refine v_getr C 68 dX9_changeLine_164 fX9_88 (by omega) hM1.2.2.1 rfl rfl ?_
          refine v_iload_n C 1 dX9_changeLine_167 rfl rfl ?_
          refine v_ald (v := fo (i.toInt).toNat) C 89 dX9_changeLine_168 (by omega) h89 (ti_in (rfl : Int32.toInt i = _) (by omega) (by omega)) (by rw [ti_cl (rfl : Int32.toInt i = _)]) ?_
          refine v_bipush (v := 6) C dX9_changeLine_169 (by decide) ?_
          refine b_icmp_ne C 223 dX9_changeLine_171 (by decide) (rfl : Int32.toInt (fo (i.toInt).toNat) = _) (show (6 : Int32).toInt = 6 by decide) (fun c24 => ?_) (fun c24 => ?_)
          · refine v_aload_n C 0 dX9_changeLine_223 rfl rfl ?_
            refine v_getr C 68 dX9_changeLine_224 fX9_88 (by omega) hM1.2.2.1 rfl rfl ?_
            refine v_iload_n C 1 dX9_changeLine_227 rfl rfl ?_
            refine v_ald (v := fo (i.toInt).toNat) C 89 dX9_changeLine_228 (by omega) h89 (ti_in (rfl : Int32.toInt i = _) (by omega) (by omega)) (by rw [ti_cl (rfl : Int32.toInt i = _)]) ?_
            refine v_bipush (v := 7) C dX9_changeLine_229 (by decide) ?_
            refine b_icmp_ne C 277 dX9_changeLine_231 (by decide) (rfl : Int32.toInt (fo (i.toInt).toNat) = _) (show (7 : Int32).toInt = 7 by decide) (fun c25 => ?_) (fun c25 => ?_)
            · refine v_iconst (v := 0) C dX9_changeLine_277 (by decide) ?_
              exact v_ret C dX9_changeLine_278 rfl rfl ⟨Or.inr ⟨rfl, by omega⟩, _, _, h89, h90, hox, hJ⟩
            · refine v_iconst (v := 0) C dX9_changeLine_234 (by decide) ?_
              refine v_istore (lv' := [(0, .ref (ad 68)), (1, .int i), (2, .int u), (3, .int u), (4, .int 0)]) C [1, 2, 3, 4, 0] dX9_changeLine_235 (by decide) rfl ?_
              have LP26 : ∀ (t : Nat) (y27 : Int32) (y28 : Int32), ((0 : Int) ≤ y27.toInt ∧ y27.toInt ≤ 10) → ((0 : Int) ≤ y28.toInt ∧ y28.toInt ≤ 3) → (u.toInt ≤ y27.toInt + y28.toInt) → 4 - y28.toInt < (t : Int) → V X G A 5 (QI X G A (n) ad (fun r E' => ((r = 1 ∧ u.toInt ≤ 5) ∨ (r = 0 ∧ (0 : Int) ≤ 1)) ∧ ∃ fo' fx' : Nat → Int32, E' 89 = aI G 10 fo' ∧ E' 90 = aI G 10 fx' ∧ OXm fo' fx' m ∧ JM G ad n ic md bd PT E0 E')) n ad 0 0 E 237 [(0, .ref (ad 68)), (1, .int i), (3, .int y27), (4, .int y28)] [] := by
                intro t34
                induction t34 with
                | zero => intro y27 y28 hy27 hy28 hq29 hm33; exfalso; omega
                | succ t34 ih32 =>
                  intro y27 y28 hy27 hy28 hq29 hm33
                  refine v_iload C 3 dX9_changeLine_237 rfl ?_
                  refine v_iconst (v := 3) C dX9_changeLine_239 (by decide) ?_
                  refine b_icmp_ge C 277 dX9_changeLine_240 (by decide) (rfl : Int32.toInt y28 = _) (show (3 : Int32).toInt = 3 by decide) (fun c35 => ?_) (fun c35 => ?_)
                  · refine v_iconst (v := 0) C dX9_changeLine_277 (by decide) ?_
                    exact v_ret C dX9_changeLine_278 rfl rfl ⟨Or.inr ⟨rfl, by omega⟩, _, _, h89, h90, hox, hJ⟩
                  · refine v_iload C 3 dX9_changeLine_243 rfl ?_
                    refine v_aload_n C 0 dX9_changeLine_245 rfl rfl ?_
                    refine v_getr C 68 dX9_changeLine_246 fX9_94 (by omega) hM1.2.2.1 rfl rfl ?_
                    refine v_iload_n C 1 dX9_changeLine_249 rfl rfl ?_
                    obtain ⟨f37, hE37, hb37⟩ := hJ.2.1.getA (b := 91) (by omega) rfl
                    refine v_ald (v := f37 (i.toInt).toNat) C 91 dX9_changeLine_250 (by omega) hE37 (ti_in (rfl : Int32.toInt i = _) (by omega) (by omega)) (by rw [ti_cl (rfl : Int32.toInt i = _)]) ?_
                    refine v_top (fun x38 _ => ?_)
                    refine b_icmp_eq C 271 dX9_changeLine_251 (by decide) (rfl : Int32.toInt y28 = _) (rfl : Int32.toInt x38 = _) (fun c39 => ?_) (fun c39 => ?_)
                    · obtain ⟨x40, ex40⟩ : ∃ y : Int32, y = y28 + 1 := ⟨_, rfl⟩
                      have hx40 : x40.toInt = (y28.toInt + 1) := by rw [ex40]; exact ti_add (rfl : Int32.toInt y28 = _) (show (1 : Int32).toInt = 1 by decide) (by omega) (by omega)
                      refine v_iinc (v := x40) (lv' := [(0, .ref (ad 68)), (1, .int i), (3, .int y27), (4, .int x40)]) C 3 [1, 2, 3, 0] dX9_changeLine_271 rfl (ex40.symm) (by decide) rfl ?_
                      refine v_goto C 237 dX9_changeLine_274 (by decide) ?_
                      exact ih32 y27 x40  (by have := hx40; omega) (by have := hx40; omega) (by have := hx40; omega) (by have := hx40; omega)
                    · refine v_iload_n C 2 dX9_changeLine_254 rfl rfl ?_
                      refine b_if_ne C 268 dX9_changeLine_255 (by decide) (rfl : Int32.toInt y27 = _) (fun c41 => ?_) (fun c41 => ?_)
                      · obtain ⟨x42, ex42⟩ : ∃ y : Int32, y = y27 + (-1) := ⟨_, rfl⟩
                        have hx42 : x42.toInt = (y27.toInt + (-1)) := by rw [ex42]; exact ti_add (rfl : Int32.toInt y27 = _) (show ((-1) : Int32).toInt = (-1) by decide) (by omega) (by omega)
                        refine v_iinc (v := x42) (lv' := [(0, .ref (ad 68)), (1, .int i), (3, .int x42), (4, .int y28)]) C 2 [1, 2, 0, 3] dX9_changeLine_268 rfl (ex42.symm) (by decide) rfl ?_
                        obtain ⟨x43, ex43⟩ : ∃ y : Int32, y = y28 + 1 := ⟨_, rfl⟩
                        have hx43 : x43.toInt = (y28.toInt + 1) := by rw [ex43]; exact ti_add (rfl : Int32.toInt y28 = _) (show (1 : Int32).toInt = 1 by decide) (by omega) (by omega)
                        refine v_iinc (v := x43) (lv' := [(0, .ref (ad 68)), (1, .int i), (3, .int x42), (4, .int x43)]) C 3 [1, 2, 3, 0] dX9_changeLine_271 rfl (ex43.symm) (by decide) rfl ?_
                        refine v_goto C 237 dX9_changeLine_274 (by decide) ?_
                        exact ih32 x42 x43  (by have := hx42; have := hx43; omega) (by have := hx42; have := hx43; omega) (by have := hx42; have := hx43; omega) (by have := hx42; have := hx43; omega)
                      · refine v_aload_n C 0 dX9_changeLine_258 rfl rfl ?_
                        refine v_getr C 68 dX9_changeLine_259 fX9_94 (by omega) hM1.2.2.1 rfl rfl ?_
                        refine v_iload_n C 1 dX9_changeLine_262 rfl rfl ?_
                        refine v_iload C 3 dX9_changeLine_263 rfl ?_
                        refine v_ast C 91 dX9_changeLine_265 (by omega) hE37 (ti_in (rfl : Int32.toInt i = _) (by omega) (by omega)) (fun E44 hE44_91 oE44 => ?_)
                        rw [ti_cl (rfl : Int32.toInt i = _)] at hE44_91
                        have hE44_89 := (oE44 89 (by decide)).trans h89
                        have hE44_90 := (oE44 90 (by decide)).trans h90
                        have hE44_68 := (oE44 68 (by decide)).trans hM1.2.2.1
                        have hJ45 := hJ.with (hJ.2.1.setA rfl (by unfold PT; omega) hb37 (ti_any y28) hE44_91 oE44) (oE44 68 (by decide)) (oE44 69 (by decide)) (oE44 70 (by decide))
                        have hM46 := hM1.of (oE44 68 (by decide)) (oE44 69 (by decide)) (oE44 70 (by decide))
                        refine v_iconst (v := 1) C dX9_changeLine_266 (by decide) ?_
                        exact v_ret C dX9_changeLine_267 rfl rfl ⟨Or.inl ⟨rfl, by omega⟩, _, _, hE44_89, hE44_90, hox, hJ45⟩
              refine v_sub (lv' := [(0, .ref (ad 68)), (1, .int i), (3, .int u), (4, .int 0)]) [0, 1, 3, 4] rfl ?_
              exact LP26 100000 u 0  (by have := (show (0 : Int32).toInt = 0 by decide); omega) (by have := (show (0 : Int32).toInt = 0 by decide); omega) (by have := (show (0 : Int32).toInt = 0 by decide); omega) (by have := (show (0 : Int32).toInt = 0 by decide); omega)
          · refine v_iload_n C 3 dX9_changeLine_174 rfl rfl ?_
            refine b_if_ne C 200 dX9_changeLine_175 (by decide) (rfl : Int32.toInt u = _) (fun c47 => ?_) (fun c47 => ?_)
            · refine v_iconst (v := 0) C dX9_changeLine_200 (by decide) ?_
              exact v_ret C dX9_changeLine_201 rfl rfl ⟨Or.inr ⟨rfl, by omega⟩, _, _, h89, h90, hox, hJ⟩
            · refine v_aload_n C 0 dX9_changeLine_178 rfl rfl ?_
              refine v_getr C 68 dX9_changeLine_179 fX9_91 (by omega) hM1.2.2.1 rfl rfl ?_
              refine v_iload_n C 1 dX9_changeLine_182 rfl rfl ?_
              refine v_ald (v := fx (i.toInt).toNat) C 90 dX9_changeLine_183 (by omega) h90 (ti_in (rfl : Int32.toInt i = _) (by omega) (by omega)) (by rw [ti_cl (rfl : Int32.toInt i = _)]) ?_
              refine v_sipush (v := 1440) C dX9_changeLine_184 (by decide) ?_
              refine v_imul C dX9_changeLine_187 ?_
              refine v_top (fun x48 _ => ?_)
              refine v_sipush (v := (-9999)) C dX9_changeLine_188 (by decide) ?_
              refine v_sipush (v := 9999) C dX9_changeLine_191 (by decide) ?_
              refine v_cSp C dX9_changeLine_194 lX9_131 mX9_within (t_X9_within l G ad hJ.self x48 (-9999) 9999) ⟨by decide, by decide⟩ rfl (Nat.le_of_ble_eq_true rfl) ⟨Nat.zero_le _, Nat.zero_le _⟩ (fun r49 hp50 => ?_)
              have := (show ((-9999) : Int32).toInt = (-9999) by decide)
              have := (show (9999 : Int32).toInt = 9999 by decide)
              rcases hp50 with ⟨rfl, hp50⟩ | ⟨rfl, hp50⟩
              · refine b_if_ne C 202 dX9_changeLine_197 (by decide) (show (1 : Int32).toInt = 1 by decide) (fun c51 => ?_) (fun c51 => absurd c51 (by decide))
                refine v_aload_n C 0 dX9_changeLine_202 rfl rfl ?_
                refine v_getr C 68 dX9_changeLine_203 fX9_88 (by omega) hM1.2.2.1 rfl rfl ?_
                refine v_iload_n C 1 dX9_changeLine_206 rfl rfl ?_
                refine v_iconst (v := 5) C dX9_changeLine_207 (by decide) ?_
                refine v_ast C 89 dX9_changeLine_208 (by omega) h89 (ti_in (rfl : Int32.toInt i = _) (by omega) (by omega)) (fun E52 hE52_89 oE52 => ?_)
                rw [ti_cl (rfl : Int32.toInt i = _)] at hE52_89
                have hE52_90 := (oE52 90 (by decide)).trans h90
                have hE52_68 := (oE52 68 (by decide)).trans hM1.2.2.1
                have hJ53 := hJ.with (hJ.2.1.setA rfl (by unfold PT; omega) (fun q => ti_any (fo q)) (ti_any 5) hE52_89 oE52) (oE52 68 (by decide)) (oE52 69 (by decide)) (oE52 70 (by decide))
                have hM54 := hM1.of (oE52 68 (by decide)) (oE52 69 (by decide)) (oE52 70 (by decide))
                refine v_aload_n C 0 dX9_changeLine_209 rfl rfl ?_
                refine v_getr C 68 dX9_changeLine_210 fX9_91 (by omega) hM54.2.2.1 rfl rfl ?_
                refine v_iload_n C 1 dX9_changeLine_213 rfl rfl ?_
                refine v_dup2_11 C dX9_changeLine_214 rfl rfl ?_
                refine v_ald (v := fx (i.toInt).toNat) C 90 dX9_changeLine_215 (by omega) hE52_90 (ti_in (rfl : Int32.toInt i = _) (by omega) (by omega)) (by rw [ti_cl (rfl : Int32.toInt i = _)]) ?_
                refine v_sipush (v := 1440) C dX9_changeLine_216 (by decide) ?_
                refine v_imul C dX9_changeLine_219 ?_
                refine v_top (fun x55 _ => ?_)
                refine v_ast C 90 dX9_changeLine_220 (by omega) hE52_90 (ti_in (rfl : Int32.toInt i = _) (by omega) (by omega)) (fun E56 hE56_90 oE56 => ?_)
                rw [ti_cl (rfl : Int32.toInt i = _)] at hE56_90
                have hE56_68 := (oE56 68 (by decide)).trans hM54.2.2.1
                have hE56_89 := (oE56 89 (by decide)).trans hE52_89
                have hJ57 := hJ53.with (hJ53.2.1.setA rfl (by unfold PT; omega) (fun q => ti_any (fx q)) (ti_any x55) hE56_90 oE56) (oE56 68 (by decide)) (oE56 69 (by decide)) (oE56 70 (by decide))
                have hM58 := hM54.of (oE56 68 (by decide)) (oE56 69 (by decide)) (oE56 70 (by decide))
                refine v_iconst (v := 1) C dX9_changeLine_221 (by decide) ?_
                exact v_ret C dX9_changeLine_222 rfl rfl ⟨Or.inl ⟨rfl, by omega⟩, _, _, hE56_89, hE56_90, OXm_o hox (by decide), hJ57⟩
              · refine b_if_ne C 202 dX9_changeLine_197 (by decide) (show (0 : Int32).toInt = 0 by decide) (fun c59 => absurd c59 (by decide)) (fun c59 => ?_)
                refine v_iconst (v := 0) C dX9_changeLine_200 (by decide) ?_
                exact v_ret C dX9_changeLine_201 rfl rfl ⟨Or.inr ⟨rfl, by omega⟩, _, _, h89, h90, hox, hJ⟩
        · refine v_iload_n C 3 dX9_changeLine_113 rfl rfl ?_
          refine b_if_ne C 139 dX9_changeLine_114 (by decide) (rfl : Int32.toInt u = _) (fun c60 => ?_) (fun c60 => ?_)
          · refine v_iconst (v := 0) C dX9_changeLine_139 (by decide) ?_
            exact v_ret C dX9_changeLine_140 rfl rfl ⟨Or.inr ⟨rfl, by omega⟩, _, _, h89, h90, hox, hJ⟩
          · refine v_aload_n C 0 dX9_changeLine_117 rfl rfl ?_
            refine v_getr C 68 dX9_changeLine_118 fX9_91 (by omega) hM1.2.2.1 rfl rfl ?_
            refine v_iload_n C 1 dX9_changeLine_121 rfl rfl ?_
            refine v_ald (v := fx (i.toInt).toNat) C 90 dX9_changeLine_122 (by omega) h90 (ti_in (rfl : Int32.toInt i = _) (by omega) (by omega)) (by rw [ti_cl (rfl : Int32.toInt i = _)]) ?_
            refine b_if_eq C 139 dX9_changeLine_123 (by decide) (rfl : Int32.toInt (fx (i.toInt).toNat) = _) (fun c61 => ?_) (fun c61 => ?_)
            · refine v_iconst (v := 0) C dX9_changeLine_139 (by decide) ?_
              exact v_ret C dX9_changeLine_140 rfl rfl ⟨Or.inr ⟨rfl, by omega⟩, _, _, h89, h90, hox, hJ⟩
            · refine v_aload_n C 0 dX9_changeLine_126 rfl rfl ?_
              refine v_getr C 68 dX9_changeLine_127 fX9_91 (by omega) hM1.2.2.1 rfl rfl ?_
              refine v_iload_n C 1 dX9_changeLine_130 rfl rfl ?_
              refine v_ald (v := fx (i.toInt).toNat) C 90 dX9_changeLine_131 (by omega) h90 (ti_in (rfl : Int32.toInt i = _) (by omega) (by omega)) (by rw [ti_cl (rfl : Int32.toInt i = _)]) ?_
              refine v_sipush (v := 1440) C dX9_changeLine_132 (by decide) ?_
              refine v_irem C dX9_changeLine_135 (by decide) ?_
              refine v_top (fun x62 _ => ?_)
              refine b_if_eq C 141 dX9_changeLine_136 (by decide) (rfl : Int32.toInt x62 = _) (fun c63 => ?_) (fun c63 => ?_)
              · refine v_aload_n C 0 dX9_changeLine_141 rfl rfl ?_
                refine v_getr C 68 dX9_changeLine_142 fX9_88 (by omega) hM1.2.2.1 rfl rfl ?_
                refine v_iload_n C 1 dX9_changeLine_145 rfl rfl ?_
                refine v_bipush (v := 6) C dX9_changeLine_146 (by decide) ?_
                refine v_ast C 89 dX9_changeLine_148 (by omega) h89 (ti_in (rfl : Int32.toInt i = _) (by omega) (by omega)) (fun E64 hE64_89 oE64 => ?_)
                rw [ti_cl (rfl : Int32.toInt i = _)] at hE64_89
                have hE64_90 := (oE64 90 (by decide)).trans h90
                have hE64_68 := (oE64 68 (by decide)).trans hM1.2.2.1
                have hJ65 := hJ.with (hJ.2.1.setA rfl (by unfold PT; omega) (fun q => ti_any (fo q)) (ti_any 6) hE64_89 oE64) (oE64 68 (by decide)) (oE64 69 (by decide)) (oE64 70 (by decide))
                have hM66 := hM1.of (oE64 68 (by decide)) (oE64 69 (by decide)) (oE64 70 (by decide))
                refine v_aload_n C 0 dX9_changeLine_149 rfl rfl ?_
                refine v_getr C 68 dX9_changeLine_150 fX9_91 (by omega) hM66.2.2.1 rfl rfl ?_
                refine v_iload_n C 1 dX9_changeLine_153 rfl rfl ?_
                refine v_dup2_11 C dX9_changeLine_154 rfl rfl ?_
                refine v_ald (v := fx (i.toInt).toNat) C 90 dX9_changeLine_155 (by omega) hE64_90 (ti_in (rfl : Int32.toInt i = _) (by omega) (by omega)) (by rw [ti_cl (rfl : Int32.toInt i = _)]) ?_
                refine v_sipush (v := 1440) C dX9_changeLine_156 (by decide) ?_
                refine v_idiv C dX9_changeLine_159 (by decide) ?_
                refine v_top (fun x67 ex67 => ?_)
                have hx67 : (-1491308 : Int) ≤ x67.toInt ∧ x67.toInt ≤ 1491308 := by rw [ex67]; exact ti_tdb (show (1440 : Int32).toInt = 1440 by decide) (by decide)
                refine v_ast C 90 dX9_changeLine_160 (by omega) hE64_90 (ti_in (rfl : Int32.toInt i = _) (by omega) (by omega)) (fun E68 hE68_90 oE68 => ?_)
                rw [ti_cl (rfl : Int32.toInt i = _)] at hE68_90
                have hE68_68 := (oE68 68 (by decide)).trans hM66.2.2.1
                have hE68_89 := (oE68 89 (by decide)).trans hE64_89
                have hJ69 := hJ65.with (hJ65.2.1.setA rfl (by unfold PT; omega) (fun q => ti_any (fx q)) (ti_any x67) hE68_90 oE68) (oE68 68 (by decide)) (oE68 69 (by decide)) (oE68 70 (by decide))
                have hM70 := hM66.of (oE68 68 (by decide)) (oE68 69 (by decide)) (oE68 70 (by decide))
                refine v_iconst (v := 1) C dX9_changeLine_161 (by decide) ?_
                exact v_ret C dX9_changeLine_162 rfl rfl ⟨Or.inl ⟨rfl, by omega⟩, _, _, hE68_89, hE68_90, OXm_o hox (by decide), hJ69⟩
              · refine v_iconst (v := 0) C dX9_changeLine_139 (by decide) ?_
                exact v_ret C dX9_changeLine_140 rfl rfl ⟨Or.inr ⟨rfl, by omega⟩, _, _, h89, h90, hox, hJ⟩
      · refine v_iconst (v := 0) C dX9_changeLine_55 (by decide) ?_
        refine v_istore (lv' := [(0, .ref (ad 68)), (1, .int i), (2, .int u), (3, .int u), (4, .int 0)]) C [1, 2, 3, 4, 0] dX9_changeLine_56 (by decide) rfl ?_
        have LP71 : ∀ (t : Nat) (y72 : Int32) (y73 : Int32), ((0 : Int) ≤ y72.toInt ∧ y72.toInt ≤ 10) → ((0 : Int) ≤ y73.toInt ∧ y73.toInt ≤ 5) → (u.toInt ≤ y72.toInt + y73.toInt + 1) → 6 - y73.toInt < (t : Int) → V X G A 5 (QI X G A (n) ad (fun r E' => ((r = 1 ∧ u.toInt ≤ 5) ∨ (r = 0 ∧ (0 : Int) ≤ 1)) ∧ ∃ fo' fx' : Nat → Int32, E' 89 = aI G 10 fo' ∧ E' 90 = aI G 10 fx' ∧ OXm fo' fx' m ∧ JM G ad n ic md bd PT E0 E')) n ad 0 0 E 58 [(0, .ref (ad 68)), (1, .int i), (3, .int y72), (4, .int y73)] [] := by
          intro t79
          induction t79 with
          | zero => intro y72 y73 hy72 hy73 hq74 hm78; exfalso; omega
          | succ t79 ih77 =>
            intro y72 y73 hy72 hy73 hq74 hm78
            refine v_iload C 3 dX9_changeLine_58 rfl ?_
            refine v_aload_n C 0 dX9_changeLine_60 rfl rfl ?_
            refine v_geti (v := im1 16) C 68 dX9_changeLine_61 fX9_135 (by omega) hM1.2.2.1 rfl rfl ?_
            have him1_16r : (bd 16).1 ≤ (im1 16).toInt ∧ (im1 16).toInt ≤ (bd 16).2 := hb1 16
            have him1_16 : (0 : Int) ≤ (im1 16).toInt ∧ (im1 16).toInt ≤ 5 := by omega
            refine b_icmp_ge C 101 dX9_changeLine_64 (by decide) (rfl : Int32.toInt y73 = _) (rfl : Int32.toInt (im1 16) = _) (fun c80 => ?_) (fun c80 => ?_)
            · refine v_iconst (v := 0) C dX9_changeLine_101 (by decide) ?_
              exact v_ret C dX9_changeLine_102 rfl rfl ⟨Or.inr ⟨rfl, by omega⟩, _, _, h89, h90, hox, hJ⟩
            · refine v_iload C 3 dX9_changeLine_67 rfl ?_
              refine v_aload_n C 0 dX9_changeLine_69 rfl rfl ?_
              refine v_getr C 68 dX9_changeLine_70 fX9_91 (by omega) hM1.2.2.1 rfl rfl ?_
              refine v_iload_n C 1 dX9_changeLine_73 rfl rfl ?_
              refine v_ald (v := fx (i.toInt).toNat) C 90 dX9_changeLine_74 (by omega) h90 (ti_in (rfl : Int32.toInt i = _) (by omega) (by omega)) (by rw [ti_cl (rfl : Int32.toInt i = _)]) ?_
              refine b_icmp_eq C 95 dX9_changeLine_75 (by decide) (rfl : Int32.toInt y73 = _) (rfl : Int32.toInt (fx (i.toInt).toNat) = _) (fun c81 => ?_) (fun c81 => ?_)
              · obtain ⟨x82, ex82⟩ : ∃ y : Int32, y = y73 + 1 := ⟨_, rfl⟩
                have hx82 : x82.toInt = (y73.toInt + 1) := by rw [ex82]; exact ti_add (rfl : Int32.toInt y73 = _) (show (1 : Int32).toInt = 1 by decide) (by omega) (by omega)
                refine v_iinc (v := x82) (lv' := [(0, .ref (ad 68)), (1, .int i), (3, .int y72), (4, .int x82)]) C 3 [1, 2, 3, 0] dX9_changeLine_95 rfl (ex82.symm) (by decide) rfl ?_
                refine v_goto C 58 dX9_changeLine_98 (by decide) ?_
                exact ih77 y72 x82  (by have := hx82; omega) (by have := hx82; omega) (by have := hx82; omega) (by have := hx82; omega)
              · refine v_iload_n C 2 dX9_changeLine_78 rfl rfl ?_
                refine b_if_ne C 92 dX9_changeLine_79 (by decide) (rfl : Int32.toInt y72 = _) (fun c83 => ?_) (fun c83 => ?_)
                · obtain ⟨x84, ex84⟩ : ∃ y : Int32, y = y72 + (-1) := ⟨_, rfl⟩
                  have hx84 : x84.toInt = (y72.toInt + (-1)) := by rw [ex84]; exact ti_add (rfl : Int32.toInt y72 = _) (show ((-1) : Int32).toInt = (-1) by decide) (by omega) (by omega)
                  refine v_iinc (v := x84) (lv' := [(0, .ref (ad 68)), (1, .int i), (3, .int x84), (4, .int y73)]) C 2 [1, 2, 0, 3] dX9_changeLine_92 rfl (ex84.symm) (by decide) rfl ?_
                  obtain ⟨x85, ex85⟩ : ∃ y : Int32, y = y73 + 1 := ⟨_, rfl⟩
                  have hx85 : x85.toInt = (y73.toInt + 1) := by rw [ex85]; exact ti_add (rfl : Int32.toInt y73 = _) (show (1 : Int32).toInt = 1 by decide) (by omega) (by omega)
                  refine v_iinc (v := x85) (lv' := [(0, .ref (ad 68)), (1, .int i), (3, .int x84), (4, .int x85)]) C 3 [1, 2, 3, 0] dX9_changeLine_95 rfl (ex85.symm) (by decide) rfl ?_
                  refine v_goto C 58 dX9_changeLine_98 (by decide) ?_
                  exact ih77 x84 x85  (by have := hx84; have := hx85; omega) (by have := hx84; have := hx85; omega) (by have := hx84; have := hx85; omega) (by have := hx84; have := hx85; omega)
                · refine v_aload_n C 0 dX9_changeLine_82 rfl rfl ?_
                  refine v_getr C 68 dX9_changeLine_83 fX9_91 (by omega) hM1.2.2.1 rfl rfl ?_
                  refine v_iload_n C 1 dX9_changeLine_86 rfl rfl ?_
                  refine v_iload C 3 dX9_changeLine_87 rfl ?_
                  refine v_ast C 90 dX9_changeLine_89 (by omega) h90 (ti_in (rfl : Int32.toInt i = _) (by omega) (by omega)) (fun E86 hE86_90 oE86 => ?_)
                  rw [ti_cl (rfl : Int32.toInt i = _)] at hE86_90
                  have hE86_89 := (oE86 89 (by decide)).trans h89
                  have hE86_68 := (oE86 68 (by decide)).trans hM1.2.2.1
                  have hJ87 := hJ.with (hJ.2.1.setA rfl (by unfold PT; omega) (fun q => ti_any (fx q)) (ti_any y73) hE86_90 oE86) (oE86 68 (by decide)) (oE86 69 (by decide)) (oE86 70 (by decide))
                  have hM88 := hM1.of (oE86 68 (by decide)) (oE86 69 (by decide)) (oE86 70 (by decide))
                  refine v_iconst (v := 1) C dX9_changeLine_90 (by decide) ?_
                  exact v_ret C dX9_changeLine_91 rfl rfl ⟨Or.inl ⟨rfl, by omega⟩, _, _, hE86_89, hE86_90, OXm_x hox (by omega), hJ87⟩
        refine v_sub (lv' := [(0, .ref (ad 68)), (1, .int i), (3, .int u), (4, .int 0)]) [0, 1, 3, 4] rfl ?_
        exact LP71 100000 u 0  (by have := (show (0 : Int32).toInt = 0 by decide); omega) (by have := (show (0 : Int32).toInt = 0 by decide); omega) (by have := (show (0 : Int32).toInt = 0 by decide); omega) (by have := (show (0 : Int32).toInt = 0 by decide); omega)
  · refine v_iload_n C 3 dX9_changeLine_12 rfl rfl ?_
    refine b_if_ne C 32 dX9_changeLine_13 (by decide) (rfl : Int32.toInt u = _) (fun c89 => ?_) (fun c89 => ?_)
    · obtain ⟨x90, ex90⟩ : ∃ y : Int32, y = u + (-1) := ⟨_, rfl⟩
      have hx90 : x90.toInt = (u.toInt + (-1)) := by rw [ex90]; exact ti_add (rfl : Int32.toInt u = _) (show ((-1) : Int32).toInt = (-1) by decide) (by omega) (by omega)
      refine v_iinc (v := x90) (lv' := [(0, .ref (ad 68)), (1, .int i), (2, .int u), (3, .int x90)]) C 3 [1, 2, 3, 0] dX9_changeLine_32 rfl (ex90.symm) (by decide) rfl ?_
      refine v_aload_n C 0 dX9_changeLine_35 rfl rfl ?_
      refine v_getr C 68 dX9_changeLine_36 fX9_88 (by omega) hM1.2.2.1 rfl rfl ?_
      refine v_iload_n C 1 dX9_changeLine_39 rfl rfl ?_
      refine v_ald (v := fo (i.toInt).toNat) C 89 dX9_changeLine_40 (by omega) h89 (ti_in (rfl : Int32.toInt i = _) (by omega) (by omega)) (by rw [ti_cl (rfl : Int32.toInt i = _)]) ?_
      refine v_iconst (v := 4) C dX9_changeLine_41 (by decide) ?_
      refine b_icmp_eq C 55 dX9_changeLine_42 (by decide) (rfl : Int32.toInt (fo (i.toInt).toNat) = _) (show (4 : Int32).toInt = 4 by decide) (fun c91 => ?_) (fun c91 => ?_)
      · refine v_iconst (v := 0) C dX9_changeLine_55 (by decide) ?_
        refine v_istore (lv' := [(0, .ref (ad 68)), (1, .int i), (2, .int u), (3, .int x90), (4, .int 0)]) C [1, 2, 3, 4, 0] dX9_changeLine_56 (by decide) rfl ?_
        have LP92 : ∀ (t : Nat) (y93 : Int32) (y94 : Int32), ((0 : Int) ≤ y93.toInt ∧ y93.toInt ≤ 10) → ((0 : Int) ≤ y94.toInt ∧ y94.toInt ≤ 5) → (u.toInt ≤ y93.toInt + y94.toInt + 1) → 6 - y94.toInt < (t : Int) → V X G A 5 (QI X G A (n) ad (fun r E' => ((r = 1 ∧ u.toInt ≤ 5) ∨ (r = 0 ∧ (0 : Int) ≤ 1)) ∧ ∃ fo' fx' : Nat → Int32, E' 89 = aI G 10 fo' ∧ E' 90 = aI G 10 fx' ∧ OXm fo' fx' m ∧ JM G ad n ic md bd PT E0 E')) n ad 0 0 E 58 [(0, .ref (ad 68)), (1, .int i), (3, .int y93), (4, .int y94)] [] := by
          intro t100
          induction t100 with
          | zero => intro y93 y94 hy93 hy94 hq95 hm99; exfalso; omega
          | succ t100 ih98 =>
            intro y93 y94 hy93 hy94 hq95 hm99
            refine v_iload C 3 dX9_changeLine_58 rfl ?_
            refine v_aload_n C 0 dX9_changeLine_60 rfl rfl ?_
            refine v_geti (v := im1 16) C 68 dX9_changeLine_61 fX9_135 (by omega) hM1.2.2.1 rfl rfl ?_
            have him1_16r : (bd 16).1 ≤ (im1 16).toInt ∧ (im1 16).toInt ≤ (bd 16).2 := hb1 16
            have him1_16 : (0 : Int) ≤ (im1 16).toInt ∧ (im1 16).toInt ≤ 5 := by omega
            refine b_icmp_ge C 101 dX9_changeLine_64 (by decide) (rfl : Int32.toInt y94 = _) (rfl : Int32.toInt (im1 16) = _) (fun c101 => ?_) (fun c101 => ?_)
            · refine v_iconst (v := 0) C dX9_changeLine_101 (by decide) ?_
              exact v_ret C dX9_changeLine_102 rfl rfl ⟨Or.inr ⟨rfl, by omega⟩, _, _, h89, h90, hox, hJ⟩
            · refine v_iload C 3 dX9_changeLine_67 rfl ?_
              refine v_aload_n C 0 dX9_changeLine_69 rfl rfl ?_
              refine v_getr C 68 dX9_changeLine_70 fX9_91 (by omega) hM1.2.2.1 rfl rfl ?_
              refine v_iload_n C 1 dX9_changeLine_73 rfl rfl ?_
              refine v_ald (v := fx (i.toInt).toNat) C 90 dX9_changeLine_74 (by omega) h90 (ti_in (rfl : Int32.toInt i = _) (by omega) (by omega)) (by rw [ti_cl (rfl : Int32.toInt i = _)]) ?_
              refine b_icmp_eq C 95 dX9_changeLine_75 (by decide) (rfl : Int32.toInt y94 = _) (rfl : Int32.toInt (fx (i.toInt).toNat) = _) (fun c102 => ?_) (fun c102 => ?_)
              · obtain ⟨x103, ex103⟩ : ∃ y : Int32, y = y94 + 1 := ⟨_, rfl⟩
                have hx103 : x103.toInt = (y94.toInt + 1) := by rw [ex103]; exact ti_add (rfl : Int32.toInt y94 = _) (show (1 : Int32).toInt = 1 by decide) (by omega) (by omega)
                refine v_iinc (v := x103) (lv' := [(0, .ref (ad 68)), (1, .int i), (3, .int y93), (4, .int x103)]) C 3 [1, 2, 3, 0] dX9_changeLine_95 rfl (ex103.symm) (by decide) rfl ?_
                refine v_goto C 58 dX9_changeLine_98 (by decide) ?_
                exact ih98 y93 x103  (by have := hx103; omega) (by have := hx103; omega) (by have := hx103; omega) (by have := hx103; omega)
              · refine v_iload_n C 2 dX9_changeLine_78 rfl rfl ?_
                refine b_if_ne C 92 dX9_changeLine_79 (by decide) (rfl : Int32.toInt y93 = _) (fun c104 => ?_) (fun c104 => ?_)
                · obtain ⟨x105, ex105⟩ : ∃ y : Int32, y = y93 + (-1) := ⟨_, rfl⟩
                  have hx105 : x105.toInt = (y93.toInt + (-1)) := by rw [ex105]; exact ti_add (rfl : Int32.toInt y93 = _) (show ((-1) : Int32).toInt = (-1) by decide) (by omega) (by omega)
                  refine v_iinc (v := x105) (lv' := [(0, .ref (ad 68)), (1, .int i), (3, .int x105), (4, .int y94)]) C 2 [1, 2, 0, 3] dX9_changeLine_92 rfl (ex105.symm) (by decide) rfl ?_
                  obtain ⟨x106, ex106⟩ : ∃ y : Int32, y = y94 + 1 := ⟨_, rfl⟩
                  have hx106 : x106.toInt = (y94.toInt + 1) := by rw [ex106]; exact ti_add (rfl : Int32.toInt y94 = _) (show (1 : Int32).toInt = 1 by decide) (by omega) (by omega)
                  refine v_iinc (v := x106) (lv' := [(0, .ref (ad 68)), (1, .int i), (3, .int x105), (4, .int x106)]) C 3 [1, 2, 3, 0] dX9_changeLine_95 rfl (ex106.symm) (by decide) rfl ?_
                  refine v_goto C 58 dX9_changeLine_98 (by decide) ?_
                  exact ih98 x105 x106  (by have := hx105; have := hx106; omega) (by have := hx105; have := hx106; omega) (by have := hx105; have := hx106; omega) (by have := hx105; have := hx106; omega)
                · refine v_aload_n C 0 dX9_changeLine_82 rfl rfl ?_
                  refine v_getr C 68 dX9_changeLine_83 fX9_91 (by omega) hM1.2.2.1 rfl rfl ?_
                  refine v_iload_n C 1 dX9_changeLine_86 rfl rfl ?_
                  refine v_iload C 3 dX9_changeLine_87 rfl ?_
                  refine v_ast C 90 dX9_changeLine_89 (by omega) h90 (ti_in (rfl : Int32.toInt i = _) (by omega) (by omega)) (fun E107 hE107_90 oE107 => ?_)
                  rw [ti_cl (rfl : Int32.toInt i = _)] at hE107_90
                  have hE107_89 := (oE107 89 (by decide)).trans h89
                  have hE107_68 := (oE107 68 (by decide)).trans hM1.2.2.1
                  have hJ108 := hJ.with (hJ.2.1.setA rfl (by unfold PT; omega) (fun q => ti_any (fx q)) (ti_any y94) hE107_90 oE107) (oE107 68 (by decide)) (oE107 69 (by decide)) (oE107 70 (by decide))
                  have hM109 := hM1.of (oE107 68 (by decide)) (oE107 69 (by decide)) (oE107 70 (by decide))
                  refine v_iconst (v := 1) C dX9_changeLine_90 (by decide) ?_
                  exact v_ret C dX9_changeLine_91 rfl rfl ⟨Or.inl ⟨rfl, by omega⟩, _, _, hE107_89, hE107_90, OXm_x hox (by omega), hJ108⟩
        refine v_sub (lv' := [(0, .ref (ad 68)), (1, .int i), (3, .int x90), (4, .int 0)]) [0, 1, 3, 4] rfl ?_
        exact LP92 100000 x90 0  (by have := hx90; have := (show (0 : Int32).toInt = 0 by decide); omega) (by have := hx90; have := (show (0 : Int32).toInt = 0 by decide); omega) (by have := hx90; have := (show (0 : Int32).toInt = 0 by decide); omega) (by have := hx90; have := (show (0 : Int32).toInt = 0 by decide); omega)
      · refine v_aload_n C 0 dX9_changeLine_45 rfl rfl ?_
        refine v_getr C 68 dX9_changeLine_46 fX9_88 (by omega) hM1.2.2.1 rfl rfl ?_
        refine v_iload_n C 1 dX9_changeLine_49 rfl rfl ?_
        refine v_ald (v := fo (i.toInt).toNat) C 89 dX9_changeLine_50 (by omega) h89 (ti_in (rfl : Int32.toInt i = _) (by omega) (by omega)) (by rw [ti_cl (rfl : Int32.toInt i = _)]) ?_
        refine v_iconst (v := 1) C dX9_changeLine_51 (by decide) ?_
        refine b_icmp_ne C 103 dX9_changeLine_52 (by decide) (rfl : Int32.toInt (fo (i.toInt).toNat) = _) (show (1 : Int32).toInt = 1 by decide) (fun c110 => ?_) (fun c110 => ?_)
        · refine v_aload_n C 0 dX9_changeLine_103 rfl rfl ?_
          refine v_getr C 68 dX9_changeLine_104 fX9_88 (by omega) hM1.2.2.1 rfl rfl ?_
          refine v_iload_n C 1 dX9_changeLine_107 rfl rfl ?_
          refine v_ald (v := fo (i.toInt).toNat) C 89 dX9_changeLine_108 (by omega) h89 (ti_in (rfl : Int32.toInt i = _) (by omega) (by omega)) (by rw [ti_cl (rfl : Int32.toInt i = _)]) ?_
          refine v_iconst (v := 5) C dX9_changeLine_109 (by decide) ?_
          refine b_icmp_ne C 163 dX9_changeLine_110 (by decide) (rfl : Int32.toInt (fo (i.toInt).toNat) = _) (show (5 : Int32).toInt = 5 by decide) (fun c111 => ?_) (fun c111 => ?_)
          · refine v_aload_n C 0 dX9_changeLine_163 rfl rfl ?_
            refine v_getr C 68 dX9_changeLine_164 fX9_88 (by omega) hM1.2.2.1 rfl rfl ?_
            refine v_iload_n C 1 dX9_changeLine_167 rfl rfl ?_
            refine v_ald (v := fo (i.toInt).toNat) C 89 dX9_changeLine_168 (by omega) h89 (ti_in (rfl : Int32.toInt i = _) (by omega) (by omega)) (by rw [ti_cl (rfl : Int32.toInt i = _)]) ?_
            refine v_bipush (v := 6) C dX9_changeLine_169 (by decide) ?_
            refine b_icmp_ne C 223 dX9_changeLine_171 (by decide) (rfl : Int32.toInt (fo (i.toInt).toNat) = _) (show (6 : Int32).toInt = 6 by decide) (fun c112 => ?_) (fun c112 => ?_)
            · refine v_aload_n C 0 dX9_changeLine_223 rfl rfl ?_
              refine v_getr C 68 dX9_changeLine_224 fX9_88 (by omega) hM1.2.2.1 rfl rfl ?_
              refine v_iload_n C 1 dX9_changeLine_227 rfl rfl ?_
              refine v_ald (v := fo (i.toInt).toNat) C 89 dX9_changeLine_228 (by omega) h89 (ti_in (rfl : Int32.toInt i = _) (by omega) (by omega)) (by rw [ti_cl (rfl : Int32.toInt i = _)]) ?_
              refine v_bipush (v := 7) C dX9_changeLine_229 (by decide) ?_
              refine b_icmp_ne C 277 dX9_changeLine_231 (by decide) (rfl : Int32.toInt (fo (i.toInt).toNat) = _) (show (7 : Int32).toInt = 7 by decide) (fun c113 => ?_) (fun c113 => ?_)
              · refine v_iconst (v := 0) C dX9_changeLine_277 (by decide) ?_
                exact v_ret C dX9_changeLine_278 rfl rfl ⟨Or.inr ⟨rfl, by omega⟩, _, _, h89, h90, hox, hJ⟩
              · refine v_iconst (v := 0) C dX9_changeLine_234 (by decide) ?_
                refine v_istore (lv' := [(0, .ref (ad 68)), (1, .int i), (2, .int u), (3, .int x90), (4, .int 0)]) C [1, 2, 3, 4, 0] dX9_changeLine_235 (by decide) rfl ?_
                have LP114 : ∀ (t : Nat) (y115 : Int32) (y116 : Int32), ((0 : Int) ≤ y115.toInt ∧ y115.toInt ≤ 10) → ((0 : Int) ≤ y116.toInt ∧ y116.toInt ≤ 3) → (u.toInt ≤ y115.toInt + y116.toInt) → 4 - y116.toInt < (t : Int) → V X G A 5 (QI X G A (n) ad (fun r E' => ((r = 1 ∧ u.toInt ≤ 5) ∨ (r = 0 ∧ (0 : Int) ≤ 1)) ∧ ∃ fo' fx' : Nat → Int32, E' 89 = aI G 10 fo' ∧ E' 90 = aI G 10 fx' ∧ OXm fo' fx' m ∧ JM G ad n ic md bd PT E0 E')) n ad 0 0 E 237 [(0, .ref (ad 68)), (1, .int i), (3, .int y115), (4, .int y116)] [] := by
                  intro t122
                  induction t122 with
                  | zero => intro y115 y116 hy115 hy116 hq117 hm121; exfalso; omega
                  | succ t122 ih120 =>
                    intro y115 y116 hy115 hy116 hq117 hm121
                    refine v_iload C 3 dX9_changeLine_237 rfl ?_
                    refine v_iconst (v := 3) C dX9_changeLine_239 (by decide) ?_
                    refine b_icmp_ge C 277 dX9_changeLine_240 (by decide) (rfl : Int32.toInt y116 = _) (show (3 : Int32).toInt = 3 by decide) (fun c123 => ?_) (fun c123 => ?_)
                    · refine v_iconst (v := 0) C dX9_changeLine_277 (by decide) ?_
                      exact v_ret C dX9_changeLine_278 rfl rfl ⟨Or.inr ⟨rfl, by omega⟩, _, _, h89, h90, hox, hJ⟩
                    · refine v_iload C 3 dX9_changeLine_243 rfl ?_
                      refine v_aload_n C 0 dX9_changeLine_245 rfl rfl ?_
                      refine v_getr C 68 dX9_changeLine_246 fX9_94 (by omega) hM1.2.2.1 rfl rfl ?_
                      refine v_iload_n C 1 dX9_changeLine_249 rfl rfl ?_
                      obtain ⟨f125, hE125, hb125⟩ := hJ.2.1.getA (b := 91) (by omega) rfl
                      refine v_ald (v := f125 (i.toInt).toNat) C 91 dX9_changeLine_250 (by omega) hE125 (ti_in (rfl : Int32.toInt i = _) (by omega) (by omega)) (by rw [ti_cl (rfl : Int32.toInt i = _)]) ?_
                      refine v_top (fun x126 _ => ?_)
                      refine b_icmp_eq C 271 dX9_changeLine_251 (by decide) (rfl : Int32.toInt y116 = _) (rfl : Int32.toInt x126 = _) (fun c127 => ?_) (fun c127 => ?_)
                      · obtain ⟨x128, ex128⟩ : ∃ y : Int32, y = y116 + 1 := ⟨_, rfl⟩
                        have hx128 : x128.toInt = (y116.toInt + 1) := by rw [ex128]; exact ti_add (rfl : Int32.toInt y116 = _) (show (1 : Int32).toInt = 1 by decide) (by omega) (by omega)
                        refine v_iinc (v := x128) (lv' := [(0, .ref (ad 68)), (1, .int i), (3, .int y115), (4, .int x128)]) C 3 [1, 2, 3, 0] dX9_changeLine_271 rfl (ex128.symm) (by decide) rfl ?_
                        refine v_goto C 237 dX9_changeLine_274 (by decide) ?_
                        exact ih120 y115 x128  (by have := hx128; omega) (by have := hx128; omega) (by have := hx128; omega) (by have := hx128; omega)
                      · refine v_iload_n C 2 dX9_changeLine_254 rfl rfl ?_
                        refine b_if_ne C 268 dX9_changeLine_255 (by decide) (rfl : Int32.toInt y115 = _) (fun c129 => ?_) (fun c129 => ?_)
                        · obtain ⟨x130, ex130⟩ : ∃ y : Int32, y = y115 + (-1) := ⟨_, rfl⟩
                          have hx130 : x130.toInt = (y115.toInt + (-1)) := by rw [ex130]; exact ti_add (rfl : Int32.toInt y115 = _) (show ((-1) : Int32).toInt = (-1) by decide) (by omega) (by omega)
                          refine v_iinc (v := x130) (lv' := [(0, .ref (ad 68)), (1, .int i), (3, .int x130), (4, .int y116)]) C 2 [1, 2, 0, 3] dX9_changeLine_268 rfl (ex130.symm) (by decide) rfl ?_
                          obtain ⟨x131, ex131⟩ : ∃ y : Int32, y = y116 + 1 := ⟨_, rfl⟩
                          have hx131 : x131.toInt = (y116.toInt + 1) := by rw [ex131]; exact ti_add (rfl : Int32.toInt y116 = _) (show (1 : Int32).toInt = 1 by decide) (by omega) (by omega)
                          refine v_iinc (v := x131) (lv' := [(0, .ref (ad 68)), (1, .int i), (3, .int x130), (4, .int x131)]) C 3 [1, 2, 3, 0] dX9_changeLine_271 rfl (ex131.symm) (by decide) rfl ?_
                          refine v_goto C 237 dX9_changeLine_274 (by decide) ?_
                          exact ih120 x130 x131  (by have := hx130; have := hx131; omega) (by have := hx130; have := hx131; omega) (by have := hx130; have := hx131; omega) (by have := hx130; have := hx131; omega)
                        · refine v_aload_n C 0 dX9_changeLine_258 rfl rfl ?_
                          refine v_getr C 68 dX9_changeLine_259 fX9_94 (by omega) hM1.2.2.1 rfl rfl ?_
                          refine v_iload_n C 1 dX9_changeLine_262 rfl rfl ?_
                          refine v_iload C 3 dX9_changeLine_263 rfl ?_
                          refine v_ast C 91 dX9_changeLine_265 (by omega) hE125 (ti_in (rfl : Int32.toInt i = _) (by omega) (by omega)) (fun E132 hE132_91 oE132 => ?_)
                          rw [ti_cl (rfl : Int32.toInt i = _)] at hE132_91
                          have hE132_89 := (oE132 89 (by decide)).trans h89
                          have hE132_90 := (oE132 90 (by decide)).trans h90
                          have hE132_68 := (oE132 68 (by decide)).trans hM1.2.2.1
                          have hJ133 := hJ.with (hJ.2.1.setA rfl (by unfold PT; omega) hb125 (ti_any y116) hE132_91 oE132) (oE132 68 (by decide)) (oE132 69 (by decide)) (oE132 70 (by decide))
                          have hM134 := hM1.of (oE132 68 (by decide)) (oE132 69 (by decide)) (oE132 70 (by decide))
                          refine v_iconst (v := 1) C dX9_changeLine_266 (by decide) ?_
                          exact v_ret C dX9_changeLine_267 rfl rfl ⟨Or.inl ⟨rfl, by omega⟩, _, _, hE132_89, hE132_90, hox, hJ133⟩
                refine v_sub (lv' := [(0, .ref (ad 68)), (1, .int i), (3, .int x90), (4, .int 0)]) [0, 1, 3, 4] rfl ?_
                exact LP114 100000 x90 0  (by have := hx90; have := (show (0 : Int32).toInt = 0 by decide); omega) (by have := hx90; have := (show (0 : Int32).toInt = 0 by decide); omega) (by have := hx90; have := (show (0 : Int32).toInt = 0 by decide); omega) (by have := hx90; have := (show (0 : Int32).toInt = 0 by decide); omega)
            · refine v_iload_n C 3 dX9_changeLine_174 rfl rfl ?_
              refine b_if_ne C 200 dX9_changeLine_175 (by decide) hx90 (fun c135 => ?_) (fun c135 => ?_)
              · refine v_iconst (v := 0) C dX9_changeLine_200 (by decide) ?_
                exact v_ret C dX9_changeLine_201 rfl rfl ⟨Or.inr ⟨rfl, by omega⟩, _, _, h89, h90, hox, hJ⟩
              · refine v_aload_n C 0 dX9_changeLine_178 rfl rfl ?_
                refine v_getr C 68 dX9_changeLine_179 fX9_91 (by omega) hM1.2.2.1 rfl rfl ?_
                refine v_iload_n C 1 dX9_changeLine_182 rfl rfl ?_
                refine v_ald (v := fx (i.toInt).toNat) C 90 dX9_changeLine_183 (by omega) h90 (ti_in (rfl : Int32.toInt i = _) (by omega) (by omega)) (by rw [ti_cl (rfl : Int32.toInt i = _)]) ?_
                refine v_sipush (v := 1440) C dX9_changeLine_184 (by decide) ?_
                refine v_imul C dX9_changeLine_187 ?_
                refine v_top (fun x136 _ => ?_)
                refine v_sipush (v := (-9999)) C dX9_changeLine_188 (by decide) ?_
                refine v_sipush (v := 9999) C dX9_changeLine_191 (by decide) ?_
                refine v_cSp C dX9_changeLine_194 lX9_131 mX9_within (t_X9_within l G ad hJ.self x136 (-9999) 9999) ⟨by decide, by decide⟩ rfl (Nat.le_of_ble_eq_true rfl) ⟨Nat.zero_le _, Nat.zero_le _⟩ (fun r137 hp138 => ?_)
                have := (show ((-9999) : Int32).toInt = (-9999) by decide)
                have := (show (9999 : Int32).toInt = 9999 by decide)
                rcases hp138 with ⟨rfl, hp138⟩ | ⟨rfl, hp138⟩
                · refine b_if_ne C 202 dX9_changeLine_197 (by decide) (show (1 : Int32).toInt = 1 by decide) (fun c139 => ?_) (fun c139 => absurd c139 (by decide))
                  refine v_aload_n C 0 dX9_changeLine_202 rfl rfl ?_
                  refine v_getr C 68 dX9_changeLine_203 fX9_88 (by omega) hM1.2.2.1 rfl rfl ?_
                  refine v_iload_n C 1 dX9_changeLine_206 rfl rfl ?_
                  refine v_iconst (v := 5) C dX9_changeLine_207 (by decide) ?_
                  refine v_ast C 89 dX9_changeLine_208 (by omega) h89 (ti_in (rfl : Int32.toInt i = _) (by omega) (by omega)) (fun E140 hE140_89 oE140 => ?_)
                  rw [ti_cl (rfl : Int32.toInt i = _)] at hE140_89
                  have hE140_90 := (oE140 90 (by decide)).trans h90
                  have hE140_68 := (oE140 68 (by decide)).trans hM1.2.2.1
                  have hJ141 := hJ.with (hJ.2.1.setA rfl (by unfold PT; omega) (fun q => ti_any (fo q)) (ti_any 5) hE140_89 oE140) (oE140 68 (by decide)) (oE140 69 (by decide)) (oE140 70 (by decide))
                  have hM142 := hM1.of (oE140 68 (by decide)) (oE140 69 (by decide)) (oE140 70 (by decide))
                  refine v_aload_n C 0 dX9_changeLine_209 rfl rfl ?_
                  refine v_getr C 68 dX9_changeLine_210 fX9_91 (by omega) hM142.2.2.1 rfl rfl ?_
                  refine v_iload_n C 1 dX9_changeLine_213 rfl rfl ?_
                  refine v_dup2_11 C dX9_changeLine_214 rfl rfl ?_
                  refine v_ald (v := fx (i.toInt).toNat) C 90 dX9_changeLine_215 (by omega) hE140_90 (ti_in (rfl : Int32.toInt i = _) (by omega) (by omega)) (by rw [ti_cl (rfl : Int32.toInt i = _)]) ?_
                  refine v_sipush (v := 1440) C dX9_changeLine_216 (by decide) ?_
                  refine v_imul C dX9_changeLine_219 ?_
                  refine v_top (fun x143 _ => ?_)
                  refine v_ast C 90 dX9_changeLine_220 (by omega) hE140_90 (ti_in (rfl : Int32.toInt i = _) (by omega) (by omega)) (fun E144 hE144_90 oE144 => ?_)
                  rw [ti_cl (rfl : Int32.toInt i = _)] at hE144_90
                  have hE144_68 := (oE144 68 (by decide)).trans hM142.2.2.1
                  have hE144_89 := (oE144 89 (by decide)).trans hE140_89
                  have hJ145 := hJ141.with (hJ141.2.1.setA rfl (by unfold PT; omega) (fun q => ti_any (fx q)) (ti_any x143) hE144_90 oE144) (oE144 68 (by decide)) (oE144 69 (by decide)) (oE144 70 (by decide))
                  have hM146 := hM142.of (oE144 68 (by decide)) (oE144 69 (by decide)) (oE144 70 (by decide))
                  refine v_iconst (v := 1) C dX9_changeLine_221 (by decide) ?_
                  exact v_ret C dX9_changeLine_222 rfl rfl ⟨Or.inl ⟨rfl, by omega⟩, _, _, hE144_89, hE144_90, OXm_o hox (by decide), hJ145⟩
                · refine b_if_ne C 202 dX9_changeLine_197 (by decide) (show (0 : Int32).toInt = 0 by decide) (fun c147 => absurd c147 (by decide)) (fun c147 => ?_)
                  refine v_iconst (v := 0) C dX9_changeLine_200 (by decide) ?_
                  exact v_ret C dX9_changeLine_201 rfl rfl ⟨Or.inr ⟨rfl, by omega⟩, _, _, h89, h90, hox, hJ⟩
          · refine v_iload_n C 3 dX9_changeLine_113 rfl rfl ?_
            refine b_if_ne C 139 dX9_changeLine_114 (by decide) hx90 (fun c148 => ?_) (fun c148 => ?_)
            · refine v_iconst (v := 0) C dX9_changeLine_139 (by decide) ?_
              exact v_ret C dX9_changeLine_140 rfl rfl ⟨Or.inr ⟨rfl, by omega⟩, _, _, h89, h90, hox, hJ⟩
            · refine v_aload_n C 0 dX9_changeLine_117 rfl rfl ?_
              refine v_getr C 68 dX9_changeLine_118 fX9_91 (by omega) hM1.2.2.1 rfl rfl ?_
              refine v_iload_n C 1 dX9_changeLine_121 rfl rfl ?_
              refine v_ald (v := fx (i.toInt).toNat) C 90 dX9_changeLine_122 (by omega) h90 (ti_in (rfl : Int32.toInt i = _) (by omega) (by omega)) (by rw [ti_cl (rfl : Int32.toInt i = _)]) ?_
              refine b_if_eq C 139 dX9_changeLine_123 (by decide) (rfl : Int32.toInt (fx (i.toInt).toNat) = _) (fun c149 => ?_) (fun c149 => ?_)
              · refine v_iconst (v := 0) C dX9_changeLine_139 (by decide) ?_
                exact v_ret C dX9_changeLine_140 rfl rfl ⟨Or.inr ⟨rfl, by omega⟩, _, _, h89, h90, hox, hJ⟩
              · refine v_aload_n C 0 dX9_changeLine_126 rfl rfl ?_
                refine v_getr C 68 dX9_changeLine_127 fX9_91 (by omega) hM1.2.2.1 rfl rfl ?_
                refine v_iload_n C 1 dX9_changeLine_130 rfl rfl ?_
                refine v_ald (v := fx (i.toInt).toNat) C 90 dX9_changeLine_131 (by omega) h90 (ti_in (rfl : Int32.toInt i = _) (by omega) (by omega)) (by rw [ti_cl (rfl : Int32.toInt i = _)]) ?_
                refine v_sipush (v := 1440) C dX9_changeLine_132 (by decide) ?_
                refine v_irem C dX9_changeLine_135 (by decide) ?_
                refine v_top (fun x150 _ => ?_)
                refine b_if_eq C 141 dX9_changeLine_136 (by decide) (rfl : Int32.toInt x150 = _) (fun c151 => ?_) (fun c151 => ?_)
                · refine v_aload_n C 0 dX9_changeLine_141 rfl rfl ?_
                  refine v_getr C 68 dX9_changeLine_142 fX9_88 (by omega) hM1.2.2.1 rfl rfl ?_
                  refine v_iload_n C 1 dX9_changeLine_145 rfl rfl ?_
                  refine v_bipush (v := 6) C dX9_changeLine_146 (by decide) ?_
                  refine v_ast C 89 dX9_changeLine_148 (by omega) h89 (ti_in (rfl : Int32.toInt i = _) (by omega) (by omega)) (fun E152 hE152_89 oE152 => ?_)
                  rw [ti_cl (rfl : Int32.toInt i = _)] at hE152_89
                  have hE152_90 := (oE152 90 (by decide)).trans h90
                  have hE152_68 := (oE152 68 (by decide)).trans hM1.2.2.1
                  have hJ153 := hJ.with (hJ.2.1.setA rfl (by unfold PT; omega) (fun q => ti_any (fo q)) (ti_any 6) hE152_89 oE152) (oE152 68 (by decide)) (oE152 69 (by decide)) (oE152 70 (by decide))
                  have hM154 := hM1.of (oE152 68 (by decide)) (oE152 69 (by decide)) (oE152 70 (by decide))
                  refine v_aload_n C 0 dX9_changeLine_149 rfl rfl ?_
                  refine v_getr C 68 dX9_changeLine_150 fX9_91 (by omega) hM154.2.2.1 rfl rfl ?_
                  refine v_iload_n C 1 dX9_changeLine_153 rfl rfl ?_
                  refine v_dup2_11 C dX9_changeLine_154 rfl rfl ?_
                  refine v_ald (v := fx (i.toInt).toNat) C 90 dX9_changeLine_155 (by omega) hE152_90 (ti_in (rfl : Int32.toInt i = _) (by omega) (by omega)) (by rw [ti_cl (rfl : Int32.toInt i = _)]) ?_
                  refine v_sipush (v := 1440) C dX9_changeLine_156 (by decide) ?_
                  refine v_idiv C dX9_changeLine_159 (by decide) ?_
                  refine v_top (fun x155 ex155 => ?_)
                  have hx155 : (-1491308 : Int) ≤ x155.toInt ∧ x155.toInt ≤ 1491308 := by rw [ex155]; exact ti_tdb (show (1440 : Int32).toInt = 1440 by decide) (by decide)
                  refine v_ast C 90 dX9_changeLine_160 (by omega) hE152_90 (ti_in (rfl : Int32.toInt i = _) (by omega) (by omega)) (fun E156 hE156_90 oE156 => ?_)
                  rw [ti_cl (rfl : Int32.toInt i = _)] at hE156_90
                  have hE156_68 := (oE156 68 (by decide)).trans hM154.2.2.1
                  have hE156_89 := (oE156 89 (by decide)).trans hE152_89
                  have hJ157 := hJ153.with (hJ153.2.1.setA rfl (by unfold PT; omega) (fun q => ti_any (fx q)) (ti_any x155) hE156_90 oE156) (oE156 68 (by decide)) (oE156 69 (by decide)) (oE156 70 (by decide))
                  have hM158 := hM154.of (oE156 68 (by decide)) (oE156 69 (by decide)) (oE156 70 (by decide))
                  refine v_iconst (v := 1) C dX9_changeLine_161 (by decide) ?_
                  exact v_ret C dX9_changeLine_162 rfl rfl ⟨Or.inl ⟨rfl, by omega⟩, _, _, hE156_89, hE156_90, OXm_o hox (by decide), hJ157⟩
                · refine v_iconst (v := 0) C dX9_changeLine_139 (by decide) ?_
                  exact v_ret C dX9_changeLine_140 rfl rfl ⟨Or.inr ⟨rfl, by omega⟩, _, _, h89, h90, hox, hJ⟩
        · refine v_iconst (v := 0) C dX9_changeLine_55 (by decide) ?_
          refine v_istore (lv' := [(0, .ref (ad 68)), (1, .int i), (2, .int u), (3, .int x90), (4, .int 0)]) C [1, 2, 3, 4, 0] dX9_changeLine_56 (by decide) rfl ?_
          have LP159 : ∀ (t : Nat) (y160 : Int32) (y161 : Int32), ((0 : Int) ≤ y160.toInt ∧ y160.toInt ≤ 10) → ((0 : Int) ≤ y161.toInt ∧ y161.toInt ≤ 5) → (u.toInt ≤ y160.toInt + y161.toInt + 1) → 6 - y161.toInt < (t : Int) → V X G A 5 (QI X G A (n) ad (fun r E' => ((r = 1 ∧ u.toInt ≤ 5) ∨ (r = 0 ∧ (0 : Int) ≤ 1)) ∧ ∃ fo' fx' : Nat → Int32, E' 89 = aI G 10 fo' ∧ E' 90 = aI G 10 fx' ∧ OXm fo' fx' m ∧ JM G ad n ic md bd PT E0 E')) n ad 0 0 E 58 [(0, .ref (ad 68)), (1, .int i), (3, .int y160), (4, .int y161)] [] := by
            intro t167
            induction t167 with
            | zero => intro y160 y161 hy160 hy161 hq162 hm166; exfalso; omega
            | succ t167 ih165 =>
              intro y160 y161 hy160 hy161 hq162 hm166
              refine v_iload C 3 dX9_changeLine_58 rfl ?_
              refine v_aload_n C 0 dX9_changeLine_60 rfl rfl ?_
              refine v_geti (v := im1 16) C 68 dX9_changeLine_61 fX9_135 (by omega) hM1.2.2.1 rfl rfl ?_
              have him1_16r : (bd 16).1 ≤ (im1 16).toInt ∧ (im1 16).toInt ≤ (bd 16).2 := hb1 16
              have him1_16 : (0 : Int) ≤ (im1 16).toInt ∧ (im1 16).toInt ≤ 5 := by omega
              refine b_icmp_ge C 101 dX9_changeLine_64 (by decide) (rfl : Int32.toInt y161 = _) (rfl : Int32.toInt (im1 16) = _) (fun c168 => ?_) (fun c168 => ?_)
              · refine v_iconst (v := 0) C dX9_changeLine_101 (by decide) ?_
                exact v_ret C dX9_changeLine_102 rfl rfl ⟨Or.inr ⟨rfl, by omega⟩, _, _, h89, h90, hox, hJ⟩
              · refine v_iload C 3 dX9_changeLine_67 rfl ?_
                refine v_aload_n C 0 dX9_changeLine_69 rfl rfl ?_
                refine v_getr C 68 dX9_changeLine_70 fX9_91 (by omega) hM1.2.2.1 rfl rfl ?_
                refine v_iload_n C 1 dX9_changeLine_73 rfl rfl ?_
                refine v_ald (v := fx (i.toInt).toNat) C 90 dX9_changeLine_74 (by omega) h90 (ti_in (rfl : Int32.toInt i = _) (by omega) (by omega)) (by rw [ti_cl (rfl : Int32.toInt i = _)]) ?_
                refine b_icmp_eq C 95 dX9_changeLine_75 (by decide) (rfl : Int32.toInt y161 = _) (rfl : Int32.toInt (fx (i.toInt).toNat) = _) (fun c169 => ?_) (fun c169 => ?_)
                · obtain ⟨x170, ex170⟩ : ∃ y : Int32, y = y161 + 1 := ⟨_, rfl⟩
                  have hx170 : x170.toInt = (y161.toInt + 1) := by rw [ex170]; exact ti_add (rfl : Int32.toInt y161 = _) (show (1 : Int32).toInt = 1 by decide) (by omega) (by omega)
                  refine v_iinc (v := x170) (lv' := [(0, .ref (ad 68)), (1, .int i), (3, .int y160), (4, .int x170)]) C 3 [1, 2, 3, 0] dX9_changeLine_95 rfl (ex170.symm) (by decide) rfl ?_
                  refine v_goto C 58 dX9_changeLine_98 (by decide) ?_
                  exact ih165 y160 x170  (by have := hx170; omega) (by have := hx170; omega) (by have := hx170; omega) (by have := hx170; omega)
                · refine v_iload_n C 2 dX9_changeLine_78 rfl rfl ?_
                  refine b_if_ne C 92 dX9_changeLine_79 (by decide) (rfl : Int32.toInt y160 = _) (fun c171 => ?_) (fun c171 => ?_)
                  · obtain ⟨x172, ex172⟩ : ∃ y : Int32, y = y160 + (-1) := ⟨_, rfl⟩
                    have hx172 : x172.toInt = (y160.toInt + (-1)) := by rw [ex172]; exact ti_add (rfl : Int32.toInt y160 = _) (show ((-1) : Int32).toInt = (-1) by decide) (by omega) (by omega)
                    refine v_iinc (v := x172) (lv' := [(0, .ref (ad 68)), (1, .int i), (3, .int x172), (4, .int y161)]) C 2 [1, 2, 0, 3] dX9_changeLine_92 rfl (ex172.symm) (by decide) rfl ?_
                    obtain ⟨x173, ex173⟩ : ∃ y : Int32, y = y161 + 1 := ⟨_, rfl⟩
                    have hx173 : x173.toInt = (y161.toInt + 1) := by rw [ex173]; exact ti_add (rfl : Int32.toInt y161 = _) (show (1 : Int32).toInt = 1 by decide) (by omega) (by omega)
                    refine v_iinc (v := x173) (lv' := [(0, .ref (ad 68)), (1, .int i), (3, .int x172), (4, .int x173)]) C 3 [1, 2, 3, 0] dX9_changeLine_95 rfl (ex173.symm) (by decide) rfl ?_
                    refine v_goto C 58 dX9_changeLine_98 (by decide) ?_
                    exact ih165 x172 x173  (by have := hx172; have := hx173; omega) (by have := hx172; have := hx173; omega) (by have := hx172; have := hx173; omega) (by have := hx172; have := hx173; omega)
                  · refine v_aload_n C 0 dX9_changeLine_82 rfl rfl ?_
                    refine v_getr C 68 dX9_changeLine_83 fX9_91 (by omega) hM1.2.2.1 rfl rfl ?_
                    refine v_iload_n C 1 dX9_changeLine_86 rfl rfl ?_
                    refine v_iload C 3 dX9_changeLine_87 rfl ?_
                    refine v_ast C 90 dX9_changeLine_89 (by omega) h90 (ti_in (rfl : Int32.toInt i = _) (by omega) (by omega)) (fun E174 hE174_90 oE174 => ?_)
                    rw [ti_cl (rfl : Int32.toInt i = _)] at hE174_90
                    have hE174_89 := (oE174 89 (by decide)).trans h89
                    have hE174_68 := (oE174 68 (by decide)).trans hM1.2.2.1
                    have hJ175 := hJ.with (hJ.2.1.setA rfl (by unfold PT; omega) (fun q => ti_any (fx q)) (ti_any y161) hE174_90 oE174) (oE174 68 (by decide)) (oE174 69 (by decide)) (oE174 70 (by decide))
                    have hM176 := hM1.of (oE174 68 (by decide)) (oE174 69 (by decide)) (oE174 70 (by decide))
                    refine v_iconst (v := 1) C dX9_changeLine_90 (by decide) ?_
                    exact v_ret C dX9_changeLine_91 rfl rfl ⟨Or.inl ⟨rfl, by omega⟩, _, _, hE174_89, hE174_90, OXm_x hox (by omega), hJ175⟩
          refine v_sub (lv' := [(0, .ref (ad 68)), (1, .int i), (3, .int x90), (4, .int 0)]) [0, 1, 3, 4] rfl ?_
          exact LP159 100000 x90 0  (by have := hx90; have := (show (0 : Int32).toInt = 0 by decide); omega) (by have := hx90; have := (show (0 : Int32).toInt = 0 by decide); omega) (by have := hx90; have := (show (0 : Int32).toInt = 0 by decide); omega) (by have := hx90; have := (show (0 : Int32).toInt = 0 by decide); omega)
    · refine v_aload_n C 0 dX9_changeLine_16 rfl rfl ?_
      refine v_getr C 68 dX9_changeLine_17 fX9_94 (by omega) hM1.2.2.1 rfl rfl ?_
      refine v_iload_n C 1 dX9_changeLine_20 rfl rfl ?_
      refine v_iconst (v := 1) C dX9_changeLine_21 (by decide) ?_
      refine v_aload_n C 0 dX9_changeLine_22 rfl rfl ?_
      refine v_getr C 68 dX9_changeLine_23 fX9_94 (by omega) hM1.2.2.1 rfl rfl ?_
      refine v_iload_n C 1 dX9_changeLine_26 rfl rfl ?_
      obtain ⟨f178, hE178, hb178⟩ := hJ.2.1.getA (b := 91) (by omega) rfl
      refine v_ald (v := f178 (i.toInt).toNat) C 91 dX9_changeLine_27 (by omega) hE178 (ti_in (rfl : Int32.toInt i = _) (by omega) (by omega)) (by rw [ti_cl (rfl : Int32.toInt i = _)]) ?_
      refine v_top (fun x179 _ => ?_)
      refine v_isub C dX9_changeLine_28 ?_
      refine v_top (fun x180 _ => ?_)
      refine v_ast C 91 dX9_changeLine_29 (by omega) hE178 (ti_in (rfl : Int32.toInt i = _) (by omega) (by omega)) (fun E181 hE181_91 oE181 => ?_)
      rw [ti_cl (rfl : Int32.toInt i = _)] at hE181_91
      have hE181_89 := (oE181 89 (by decide)).trans h89
      have hE181_90 := (oE181 90 (by decide)).trans h90
      have hE181_68 := (oE181 68 (by decide)).trans hM1.2.2.1
      have hJ182 := hJ.with (hJ.2.1.setA rfl (by unfold PT; omega) hb178 (ti_any x180) hE181_91 oE181) (oE181 68 (by decide)) (oE181 69 (by decide)) (oE181 70 (by decide))
      have hM183 := hM1.of (oE181 68 (by decide)) (oE181 69 (by decide)) (oE181 70 (by decide))
      refine v_iconst (v := 1) C dX9_changeLine_30 (by decide) ?_
      exact v_ret C dX9_changeLine_31 rfl rfl ⟨Or.inl ⟨rfl, by omega⟩, _, _, hE181_89, hE181_90, hox, hJ182⟩

set_option maxRecDepth 20000 in
theorem t_X9_mendsOne (l : Launch) (G : Gl) (ad : Nat → Nat) {n : Nat} {ic md : Nat → Int32} {bd : Nat → Int × Int} {E0 E : Nat → va_E} (hJ : JM G ad n ic md bd PT E0 E) {gop gx gy fl : Nat → Int32} (hgo : E0 85 = aI G 60 gop) (hgx : E0 86 = aI G 60 gx) (hgy : E0 87 = aI G 60 gy) (hgl : E0 88 = aI G 6 fl) (hbl : ∀ k, 0 ≤ (fl k).toInt ∧ (fl k).toInt ≤ 10) (hLX : LXg gop gx) (hf32 : ((0 : Int) ≤ (bd 32).1 ∧ (bd 32).2 ≤ 10) ∧ ((bd 32).1 ≤ 0 ∧ 10 ≤ (bd 32).2)) (hf35 : ((0 : Int) ≤ (bd 35).1 ∧ (bd 35).2 ≤ 8) ∧ ((bd 35).1 ≤ 0 ∧ 8 ≤ (bd 35).2)) (hf41 : ((0 : Int) ≤ (bd 41).1 ∧ (bd 41).2 ≤ 40000) ∧ ((bd 41).1 ≤ 0 ∧ 40000 ≤ (bd 41).2)) (p : Int32) (hp : (0 : Int) ≤ p.toInt ∧ p.toInt ≤ 5) (x : Int32) (hx : (0 : Int) ≤ x.toInt ∧ x.toInt ≤ 2147483647) (y : Int32) (hlw : ((x.toInt % 10 = 1 ∨ x.toInt % 10 = 2) → x.toInt / 10 ≤ 4)) : CtI l G yX9_mendsOne cX9_mendsOne 7 .boolean 11 268 (n) ad E [.ref (ad 68), .int p, .int x, .int y] (fun r E' => (r = 0 ∨ r = 1) ∧ JM G ad n ic md bd PT E0 E') := by
  refine CtI.of (by decide) (Nat.le_of_ble_eq_true rfl) (fun X A C => ?_)
  refine v_sub (lv' := [(0, .ref (ad 68)), (1, .int p), (2, .int x), (3, .int y)]) [0, 1, 2, 3] rfl ?_
  have hn := hJ.hn
  have hz16 := hJ.2.2.2.2
  refine v_iconst (v := 0) C dX9_mendsOne_0 (by decide) ?_
  refine v_istore (lv' := [(0, .ref (ad 68)), (1, .int p), (2, .int x), (3, .int y), (4, .int 0)]) C [1, 2, 3, 4, 0] dX9_mendsOne_1 (by decide) rfl ?_
  have LP1 : ∀ (t : Nat) (E3 : Nat → va_E) (y2 : Int32), JM G ad n ic md (bd) PT E0 E3 → ((0 : Int) ≤ y2.toInt ∧ y2.toInt ≤ 10) → 11 - y2.toInt < (t : Int) → V X G A 7 (QI X G A (n) ad (fun r E' => (r = 0 ∨ r = 1) ∧ JM G ad n ic md bd PT E0 E')) n ad 0 0 E3 3 [(0, .ref (ad 68)), (1, .int p), (2, .int x), (3, .int y), (4, .int y2)] [] := by
    intro t7
    induction t7 with
    | zero => intro E3 y2 hJ4 hy2 hm6; exfalso; omega
    | succ t7 ih5 =>
      intro E3 y2 hJ4 hy2 hm6
      refine v_iload C 4 dX9_mendsOne_3 rfl ?_
      refine v_aload_n C 0 dX9_mendsOne_5 rfl rfl ?_
      obtain ⟨im8, hM8, hb8⟩ := hJ4.1
      have hq8 := hM8.b
      refine v_getr C 68 dX9_mendsOne_6 fX9_85 (by omega) hM8.2.2.1 rfl rfl ?_
      refine v_iload_n C 1 dX9_mendsOne_9 rfl rfl ?_
      have hE9 := (hJ4.2.1.1 88 (by unfold PT; omega)).trans hgl
      refine v_ald (v := fl (p.toInt).toNat) C 88 dX9_mendsOne_10 (by omega) hE9 (ti_in (rfl : Int32.toInt p = _) (by omega) (by omega)) (by rw [ti_cl (rfl : Int32.toInt p = _)]) ?_
      have := hbl ((p.toInt).toNat)
      refine b_icmp_ge C 68 dX9_mendsOne_11 (by decide) (rfl : Int32.toInt y2 = _) (rfl : Int32.toInt (fl (p.toInt).toNat) = _) (fun c10 => ?_) (fun c10 => ?_)
      · refine v_iconst (v := 0) C dX9_mendsOne_68 (by decide) ?_
        exact v_ret C dX9_mendsOne_69 rfl rfl ⟨Or.inl rfl, hJ4⟩
      · refine v_iconst (v := 1) C dX9_mendsOne_14 (by decide) ?_
        refine v_istore (lv' := [(0, .ref (ad 68)), (1, .int p), (2, .int x), (3, .int y), (4, .int y2), (5, .int 1)]) C [1, 2, 3, 4, 5, 0] dX9_mendsOne_15 (by decide) rfl ?_
        refine v_iconst (v := 0) C dX9_mendsOne_17 (by decide) ?_
        refine v_istore (lv' := [(0, .ref (ad 68)), (1, .int p), (2, .int x), (3, .int y), (4, .int y2), (5, .int 1), (6, .int 0)]) C [1, 2, 3, 4, 5, 6, 0] dX9_mendsOne_18 (by decide) rfl ?_
        have LP11 : ∀ (t : Nat) (E15 : Nat → va_E) (y12 : Int32) (y13 : Int32), JM G ad n ic md (bd) PT E0 E15 → ((0 : Int) ≤ y12.toInt ∧ y12.toInt ≤ 1) → ((0 : Int) ≤ y13.toInt ∧ y13.toInt ≤ 7) → (y12.toInt = 1 → y13.toInt ≤ 6) → 8 - y13.toInt < (t : Int) → V X G A 7 (QI X G A (n) ad (fun r E' => (r = 0 ∨ r = 1) ∧ JM G ad n ic md bd PT E0 E')) n ad 0 0 E15 20 [(0, .ref (ad 68)), (1, .int p), (2, .int x), (3, .int y), (4, .int y2), (5, .int y12), (6, .int y13)] [] := by
          intro t19
          induction t19 with
          | zero => intro E15 y12 y13 hJ16 hy12 hy13 hq14 hm18; exfalso; omega
          | succ t19 ih17 =>
            intro E15 y12 y13 hJ16 hy12 hy13 hq14 hm18
            refine v_iload C 5 dX9_mendsOne_20 rfl ?_
            refine b_if_eq C 62 dX9_mendsOne_22 (by decide) (rfl : Int32.toInt y12 = _) (fun c20 => ?_) (fun c20 => ?_)
            · obtain ⟨x21, ex21⟩ : ∃ y : Int32, y = y2 + 1 := ⟨_, rfl⟩
              have hx21 : x21.toInt = (y2.toInt + 1) := by rw [ex21]; exact ti_add (rfl : Int32.toInt y2 = _) (show (1 : Int32).toInt = 1 by decide) (by omega) (by omega)
              refine v_iinc (v := x21) (lv' := [(0, .ref (ad 68)), (1, .int p), (2, .int x), (3, .int y), (4, .int x21), (5, .int y12), (6, .int y13)]) C 4 [1, 2, 3, 4, 0, 5, 6] dX9_mendsOne_62 rfl (ex21.symm) (by decide) rfl ?_
              refine v_goto C 3 dX9_mendsOne_65 (by decide) ?_
              refine v_sub (lv' := [(0, .ref (ad 68)), (1, .int p), (2, .int x), (3, .int y), (4, .int x21)]) [0, 1, 2, 3, 4] rfl ?_
              exact ih5 _ x21 hJ16 (by have := hx21; omega) (by have := hx21; omega)
            · refine v_aload_n C 0 dX9_mendsOne_25 rfl rfl ?_
              refine v_iload_n C 1 dX9_mendsOne_26 rfl rfl ?_
              obtain ⟨im25, hM25, hb25⟩ := hJ16.1
              have hq25 := hM25.b
              refine v_cVv C dX9_mendsOne_27 lX9_219 mX9_take 68 (by omega) hM25.2.2.1 (by decide) rfl (t_X9_take l G ad hJ16 hgo hgx hgy hgl hbl p (show (0 : Int) ≤ Int32.toInt p ∧ Int32.toInt p ≤ 5 by omega)) ⟨by decide, by decide⟩ rfl (Nat.le_of_ble_eq_true rfl) ⟨Nat.zero_le _, Nat.zero_le _⟩ (fun E22 hT24 => ?_)
              obtain ⟨fo24, fx24, fy24, h8924, h9024, h9124, hT24, hJ23⟩ := hT24
              have hbm24 := hbl (p.toInt).toNat
              have hox24 : OXm fo24 fx24 ((fl (p.toInt).toNat).toInt).toNat := fun j hj hq => by have q := hT24 j hj; rw [q.1] at hq; rw [q.2.1]; exact hLX _ (by omega) hq
              refine v_aload_n C 0 dX9_mendsOne_30 rfl rfl ?_
              refine v_iload C 4 dX9_mendsOne_31 rfl ?_
              refine v_iload C 6 dX9_mendsOne_33 rfl ?_
              obtain ⟨im31, hM31, hb31⟩ := hJ23.1
              have hq31 := hM31.b
              refine v_cVi C dX9_mendsOne_35 lX9_292 mX9_changeLine 68 (by omega) hM31.2.2.1 (by decide) rfl (t_X9_changeLine l G ad hJ23 h8924 h9024 hox24 y2 (show (0 : Int) ≤ Int32.toInt y2 ∧ Int32.toInt y2 ≤ 9 by omega) y13 (show (0 : Int) ≤ Int32.toInt y13 ∧ Int32.toInt y13 ≤ 10 by omega)) ⟨by decide, by decide⟩ rfl (Nat.le_of_ble_eq_true rfl) ⟨Nat.zero_le _, Nat.zero_le _⟩ (fun r26 E27 hp28 => ?_)
              obtain ⟨hp28, fo30, fx30, e8930, e9030, hox30, hJ29⟩ := hp28
              rcases hp28 with ⟨rfl, hp28⟩ | ⟨rfl, hp28⟩
              · refine v_istore (lv' := [(0, .ref (ad 68)), (1, .int p), (2, .int x), (3, .int y), (4, .int y2), (5, .int 1), (6, .int y13)]) C [1, 2, 3, 4, 5, 0, 6] dX9_mendsOne_38 (by decide) rfl ?_
                refine v_iload C 5 dX9_mendsOne_40 rfl ?_
                refine b_if_eq C 56 dX9_mendsOne_42 (by decide) (show (1 : Int32).toInt = 1 by decide) (fun c32 => absurd c32 (by decide)) (fun c32 => ?_)
                refine v_aload_n C 0 dX9_mendsOne_45 rfl rfl ?_
                refine v_iload_n C 2 dX9_mendsOne_46 rfl rfl ?_
                refine v_iload_n C 3 dX9_mendsOne_47 rfl rfl ?_
                obtain ⟨im38, hM38, hb38⟩ := hJ29.1
                have hq38 := hM38.b
                refine v_cVi C dX9_mendsOne_48 lX9_295 mX9_isRight 68 (by omega) hM38.2.2.1 (by decide) rfl (t_X9_isRight l G ad hJ29.self e8930 e9030 (show ((fl (p.toInt).toNat).toInt).toNat ≤ 10 by omega) hox30 (show ((((fl (p.toInt).toNat).toInt).toNat : Nat) : Int) ≤ (fl (p.toInt).toNat).toInt ∧ (fl (p.toInt).toNat).toInt ≤ ((((fl (p.toInt).toNat).toInt).toNat : Nat) : Int) by omega) (show (0 : Int) ≤ (bd 41).1 ∧ (bd 41).2 ≤ 40000 by omega) x (show (0 : Int) ≤ Int32.toInt x ∧ Int32.toInt x ≤ 2147483647 by have := ti_any x; omega) y (by omega)) ⟨by decide, by decide⟩ rfl (Nat.le_of_ble_eq_true rfl) ⟨Nat.zero_le _, Nat.zero_le _⟩ (fun r33 E34 hp35 => ?_)
                obtain ⟨hp35, hJ36⟩ := hp35
                have hJ37 := hJ29.trans (fun _ => PT_PR) hJ36
                have e39 := (hJ36.2.1.1 89 (by unfold PR; omega)).trans e8930
                have e40 := (hJ36.2.1.1 90 (by unfold PR; omega)).trans e9030
                rcases hp35 with rfl | rfl
                · refine b_if_eq C 56 dX9_mendsOne_51 (by decide) (show (0 : Int32).toInt = 0 by decide) (fun c41 => ?_) (fun c41 => absurd c41 (by decide))
                  obtain ⟨x42, ex42⟩ : ∃ y : Int32, y = y13 + 1 := ⟨_, rfl⟩
                  have hx42 : x42.toInt = (y13.toInt + 1) := by rw [ex42]; exact ti_add (rfl : Int32.toInt y13 = _) (show (1 : Int32).toInt = 1 by decide) (by omega) (by omega)
                  refine v_iinc (v := x42) (lv' := [(0, .ref (ad 68)), (1, .int p), (2, .int x), (3, .int y), (4, .int y2), (5, .int 1), (6, .int x42)]) C 6 [1, 2, 3, 4, 5, 6, 0] dX9_mendsOne_56 rfl (ex42.symm) (by decide) rfl ?_
                  refine v_goto C 20 dX9_mendsOne_59 (by decide) ?_
                  exact ih17 _ 1 x42 ((hJ37.outB (k := 35) (by decide) (show (bd 35).1 ≤ 0 by omega) (show 8 ≤ (bd 35).2 by omega)).outB (k := 32) (by decide) (show (bd 32).1 ≤ (fl (p.toInt).toNat).toInt by omega) (show (fl (p.toInt).toNat).toInt ≤ (bd 32).2 by omega)) (by have := (show (1 : Int32).toInt = 1 by decide); have := hx42; omega) (by have := (show (1 : Int32).toInt = 1 by decide); have := hx42; omega) (by have := (show (1 : Int32).toInt = 1 by decide); have := hx42; omega) (by have := (show (1 : Int32).toInt = 1 by decide); have := hx42; omega)
                · refine b_if_eq C 56 dX9_mendsOne_51 (by decide) (show (1 : Int32).toInt = 1 by decide) (fun c43 => absurd c43 (by decide)) (fun c43 => ?_)
                  refine v_iconst (v := 1) C dX9_mendsOne_54 (by decide) ?_
                  exact v_ret C dX9_mendsOne_55 rfl rfl ⟨Or.inr rfl, ((hJ37.outB (k := 35) (by decide) (show (bd 35).1 ≤ 0 by omega) (show 8 ≤ (bd 35).2 by omega)).outB (k := 32) (by decide) (show (bd 32).1 ≤ (fl (p.toInt).toNat).toInt by omega) (show (fl (p.toInt).toNat).toInt ≤ (bd 32).2 by omega))⟩
              · refine v_istore (lv' := [(0, .ref (ad 68)), (1, .int p), (2, .int x), (3, .int y), (4, .int y2), (5, .int 0), (6, .int y13)]) C [1, 2, 3, 4, 5, 0, 6] dX9_mendsOne_38 (by decide) rfl ?_
                refine v_iload C 5 dX9_mendsOne_40 rfl ?_
                refine b_if_eq C 56 dX9_mendsOne_42 (by decide) (show (0 : Int32).toInt = 0 by decide) (fun c44 => ?_) (fun c44 => absurd c44 (by decide))
                obtain ⟨x45, ex45⟩ : ∃ y : Int32, y = y13 + 1 := ⟨_, rfl⟩
                have hx45 : x45.toInt = (y13.toInt + 1) := by rw [ex45]; exact ti_add (rfl : Int32.toInt y13 = _) (show (1 : Int32).toInt = 1 by decide) (by omega) (by omega)
                refine v_iinc (v := x45) (lv' := [(0, .ref (ad 68)), (1, .int p), (2, .int x), (3, .int y), (4, .int y2), (5, .int 0), (6, .int x45)]) C 6 [1, 2, 3, 4, 5, 6, 0] dX9_mendsOne_56 rfl (ex45.symm) (by decide) rfl ?_
                refine v_goto C 20 dX9_mendsOne_59 (by decide) ?_
                exact ih17 _ 0 x45 (hJ29.outB (k := 32) (by decide) (show (bd 32).1 ≤ (fl (p.toInt).toNat).toInt by omega) (show (fl (p.toInt).toNat).toInt ≤ (bd 32).2 by omega)) (by have := (show (0 : Int32).toInt = 0 by decide); have := hx45; omega) (by have := (show (0 : Int32).toInt = 0 by decide); have := hx45; omega) (by have := (show (0 : Int32).toInt = 0 by decide); have := hx45; omega) (by have := (show (0 : Int32).toInt = 0 by decide); have := hx45; omega)
        exact LP11 100000 _ 1 0 hJ4 (by have := (show (1 : Int32).toInt = 1 by decide); have := (show (0 : Int32).toInt = 0 by decide); omega) (by have := (show (1 : Int32).toInt = 1 by decide); have := (show (0 : Int32).toInt = 0 by decide); omega) (by have := (show (1 : Int32).toInt = 1 by decide); have := (show (0 : Int32).toInt = 0 by decide); omega) (by have := (show (1 : Int32).toInt = 1 by decide); have := (show (0 : Int32).toInt = 0 by decide); omega)
  exact LP1 100000 _ 0 hJ (by have := (show (0 : Int32).toInt = 0 by decide); omega) (by have := (show (0 : Int32).toInt = 0 by decide); omega)

set_option maxRecDepth 20000 in
theorem t_X9_mendsTwo (l : Launch) (G : Gl) (ad : Nat → Nat) {n : Nat} {ic md : Nat → Int32} {bd : Nat → Int × Int} {E0 E : Nat → va_E} (hJ : JM G ad n ic md bd PT E0 E) {gop gx gy fl : Nat → Int32} (hgo : E0 85 = aI G 60 gop) (hgx : E0 86 = aI G 60 gx) (hgy : E0 87 = aI G 60 gy) (hgl : E0 88 = aI G 6 fl) (hbl : ∀ k, 0 ≤ (fl k).toInt ∧ (fl k).toInt ≤ 10) (hLX : LXg gop gx) (hf32 : ((0 : Int) ≤ (bd 32).1 ∧ (bd 32).2 ≤ 10) ∧ ((bd 32).1 ≤ 0 ∧ 10 ≤ (bd 32).2)) (hf35 : ((0 : Int) ≤ (bd 35).1 ∧ (bd 35).2 ≤ 8) ∧ ((bd 35).1 ≤ 0 ∧ 8 ≤ (bd 35).2)) (hf41 : ((0 : Int) ≤ (bd 41).1 ∧ (bd 41).2 ≤ 40000) ∧ ((bd 41).1 ≤ 0 ∧ 40000 ≤ (bd 41).2)) (p : Int32) (hp : (0 : Int) ≤ p.toInt ∧ p.toInt ≤ 5) (x : Int32) (hx : (0 : Int) ≤ x.toInt ∧ x.toInt ≤ 2147483647) (y : Int32) (hlw : ((x.toInt % 10 = 1 ∨ x.toInt % 10 = 2) → x.toInt / 10 ≤ 4)) : CtI l G yX9_mendsTwo cX9_mendsTwo 11 .boolean 11 268 (n) ad E [.ref (ad 68), .int p, .int x, .int y] (fun r E' => (r = 0 ∨ r = 1) ∧ JM G ad n ic md bd PT E0 E') := by
  refine CtI.of (by decide) (Nat.le_of_ble_eq_true rfl) (fun X A C => ?_)
  refine v_sub (lv' := [(0, .ref (ad 68)), (1, .int p), (2, .int x), (3, .int y)]) [0, 1, 2, 3] rfl ?_
  have hn := hJ.hn
  have hz16 := hJ.2.2.2.2
  refine v_iconst (v := 0) C dX9_mendsTwo_0 (by decide) ?_
  refine v_istore (lv' := [(0, .ref (ad 68)), (1, .int p), (2, .int x), (3, .int y), (4, .int 0)]) C [1, 2, 3, 4, 0] dX9_mendsTwo_1 (by decide) rfl ?_
  have LP1 : ∀ (t : Nat) (E3 : Nat → va_E) (y2 : Int32), JM G ad n ic md (bd) PT E0 E3 → ((0 : Int) ≤ y2.toInt ∧ y2.toInt ≤ 10) → 11 - y2.toInt < (t : Int) → V X G A 11 (QI X G A (n) ad (fun r E' => (r = 0 ∨ r = 1) ∧ JM G ad n ic md bd PT E0 E')) n ad 0 0 E3 3 [(0, .ref (ad 68)), (1, .int p), (2, .int x), (3, .int y), (4, .int y2)] [] := by
    intro t7
    induction t7 with
    | zero => intro E3 y2 hJ4 hy2 hm6; exfalso; omega
    | succ t7 ih5 =>
      intro E3 y2 hJ4 hy2 hm6
      refine v_iload C 4 dX9_mendsTwo_3 rfl ?_
      refine v_aload_n C 0 dX9_mendsTwo_5 rfl rfl ?_
      obtain ⟨im8, hM8, hb8⟩ := hJ4.1
      have hq8 := hM8.b
      refine v_getr C 68 dX9_mendsTwo_6 fX9_85 (by omega) hM8.2.2.1 rfl rfl ?_
      refine v_iload_n C 1 dX9_mendsTwo_9 rfl rfl ?_
      have hE9 := (hJ4.2.1.1 88 (by unfold PT; omega)).trans hgl
      refine v_ald (v := fl (p.toInt).toNat) C 88 dX9_mendsTwo_10 (by omega) hE9 (ti_in (rfl : Int32.toInt p = _) (by omega) (by omega)) (by rw [ti_cl (rfl : Int32.toInt p = _)]) ?_
      have := hbl ((p.toInt).toNat)
      refine b_icmp_ge C 138 dX9_mendsTwo_11 (by decide) (rfl : Int32.toInt y2 = _) (rfl : Int32.toInt (fl (p.toInt).toNat) = _) (fun c10 => ?_) (fun c10 => ?_)
      · refine v_iconst (v := 0) C dX9_mendsTwo_138 (by decide) ?_
        exact v_ret C dX9_mendsTwo_139 rfl rfl ⟨Or.inl rfl, hJ4⟩
      · refine v_iconst (v := 1) C dX9_mendsTwo_14 (by decide) ?_
        refine v_istore (lv' := [(0, .ref (ad 68)), (1, .int p), (2, .int x), (3, .int y), (4, .int y2), (5, .int 1)]) C [1, 2, 3, 4, 5, 0] dX9_mendsTwo_15 (by decide) rfl ?_
        refine v_iconst (v := 0) C dX9_mendsTwo_17 (by decide) ?_
        refine v_istore (lv' := [(0, .ref (ad 68)), (1, .int p), (2, .int x), (3, .int y), (4, .int y2), (5, .int 1), (6, .int 0)]) C [1, 2, 3, 4, 5, 6, 0] dX9_mendsTwo_18 (by decide) rfl ?_
        have LP11 : ∀ (t : Nat) (E15 : Nat → va_E) (y12 : Int32) (y13 : Int32), JM G ad n ic md (bd) PT E0 E15 → ((0 : Int) ≤ y12.toInt ∧ y12.toInt ≤ 1) → ((0 : Int) ≤ y13.toInt ∧ y13.toInt ≤ 7) → (y12.toInt = 1 → y13.toInt ≤ 6) → 8 - y13.toInt < (t : Int) → V X G A 11 (QI X G A (n) ad (fun r E' => (r = 0 ∨ r = 1) ∧ JM G ad n ic md bd PT E0 E')) n ad 0 0 E15 20 [(0, .ref (ad 68)), (1, .int p), (2, .int x), (3, .int y), (4, .int y2), (5, .int y12), (6, .int y13)] [] := by
          intro t19
          induction t19 with
          | zero => intro E15 y12 y13 hJ16 hy12 hy13 hq14 hm18; exfalso; omega
          | succ t19 ih17 =>
            intro E15 y12 y13 hJ16 hy12 hy13 hq14 hm18
            refine v_iload C 5 dX9_mendsTwo_20 rfl ?_
            refine b_if_eq C 132 dX9_mendsTwo_22 (by decide) (rfl : Int32.toInt y12 = _) (fun c20 => ?_) (fun c20 => ?_)
            · obtain ⟨x21, ex21⟩ : ∃ y : Int32, y = y2 + 1 := ⟨_, rfl⟩
              have hx21 : x21.toInt = (y2.toInt + 1) := by rw [ex21]; exact ti_add (rfl : Int32.toInt y2 = _) (show (1 : Int32).toInt = 1 by decide) (by omega) (by omega)
              refine v_iinc (v := x21) (lv' := [(0, .ref (ad 68)), (1, .int p), (2, .int x), (3, .int y), (4, .int x21), (5, .int y12), (6, .int y13)]) C 4 [1, 2, 3, 4, 0, 5, 6] dX9_mendsTwo_132 rfl (ex21.symm) (by decide) rfl ?_
              refine v_goto C 3 dX9_mendsTwo_135 (by decide) ?_
              refine v_sub (lv' := [(0, .ref (ad 68)), (1, .int p), (2, .int x), (3, .int y), (4, .int x21)]) [0, 1, 2, 3, 4] rfl ?_
              exact ih5 _ x21 hJ16 (by have := hx21; omega) (by have := hx21; omega)
            · refine v_aload_n C 0 dX9_mendsTwo_25 rfl rfl ?_
              refine v_iload_n C 1 dX9_mendsTwo_26 rfl rfl ?_
              obtain ⟨im25, hM25, hb25⟩ := hJ16.1
              have hq25 := hM25.b
              refine v_cVv C dX9_mendsTwo_27 lX9_219 mX9_take 68 (by omega) hM25.2.2.1 (by decide) rfl (t_X9_take l G ad hJ16 hgo hgx hgy hgl hbl p (show (0 : Int) ≤ Int32.toInt p ∧ Int32.toInt p ≤ 5 by omega)) ⟨by decide, by decide⟩ rfl (Nat.le_of_ble_eq_true rfl) ⟨Nat.zero_le _, Nat.zero_le _⟩ (fun E22 hT24 => ?_)
              obtain ⟨fo24, fx24, fy24, h8924, h9024, h9124, hT24, hJ23⟩ := hT24
              have hbm24 := hbl (p.toInt).toNat
              have hox24 : OXm fo24 fx24 ((fl (p.toInt).toNat).toInt).toNat := fun j hj hq => by have q := hT24 j hj; rw [q.1] at hq; rw [q.2.1]; exact hLX _ (by omega) hq
              refine v_aload_n C 0 dX9_mendsTwo_30 rfl rfl ?_
              refine v_iload C 4 dX9_mendsTwo_31 rfl ?_
              refine v_iload C 6 dX9_mendsTwo_33 rfl ?_
              obtain ⟨im31, hM31, hb31⟩ := hJ23.1
              have hq31 := hM31.b
              refine v_cVi C dX9_mendsTwo_35 lX9_292 mX9_changeLine 68 (by omega) hM31.2.2.1 (by decide) rfl (t_X9_changeLine l G ad hJ23 h8924 h9024 hox24 y2 (show (0 : Int) ≤ Int32.toInt y2 ∧ Int32.toInt y2 ≤ 9 by omega) y13 (show (0 : Int) ≤ Int32.toInt y13 ∧ Int32.toInt y13 ≤ 10 by omega)) ⟨by decide, by decide⟩ rfl (Nat.le_of_ble_eq_true rfl) ⟨Nat.zero_le _, Nat.zero_le _⟩ (fun r26 E27 hp28 => ?_)
              obtain ⟨hp28, fo30, fx30, e8930, e9030, hox30, hJ29⟩ := hp28
              rcases hp28 with ⟨rfl, hp28⟩ | ⟨rfl, hp28⟩
              · refine v_istore (lv' := [(0, .ref (ad 68)), (1, .int p), (2, .int x), (3, .int y), (4, .int y2), (5, .int 1), (6, .int y13)]) C [1, 2, 3, 4, 5, 0, 6] dX9_mendsTwo_38 (by decide) rfl ?_
                refine v_iload C 4 dX9_mendsTwo_40 rfl ?_
                refine v_iconst (v := 1) C dX9_mendsTwo_42 (by decide) ?_
                refine v_iadd C dX9_mendsTwo_43 ?_
                refine v_top (fun x32 ex32 => ?_)
                have hx32 : x32.toInt = (y2.toInt + 1) := by rw [ex32]; exact ti_add (rfl : Int32.toInt y2 = _) (show (1 : Int32).toInt = 1 by decide) (by omega) (by omega)
                refine v_istore (lv' := [(0, .ref (ad 68)), (1, .int p), (2, .int x), (3, .int y), (4, .int y2), (5, .int 1), (6, .int y13), (7, .int x32)]) C [1, 2, 3, 4, 5, 6, 7, 0] dX9_mendsTwo_44 (by decide) rfl ?_
                have LP33 : ∀ (t : Nat) (E35 : Nat → va_E) (y34 : Int32), JM G ad n ic md (bd) PT E0 E35 → ((0 : Int) ≤ y34.toInt ∧ y34.toInt ≤ 10) → 11 - y34.toInt < (t : Int) → V X G A 11 (QI X G A (n) ad (fun r E' => (r = 0 ∨ r = 1) ∧ JM G ad n ic md bd PT E0 E')) n ad 0 0 E35 46 [(0, .ref (ad 68)), (1, .int p), (2, .int x), (3, .int y), (4, .int y2), (5, .int 1), (6, .int y13), (7, .int y34)] [] := by
                  intro t39
                  induction t39 with
                  | zero => intro E35 y34 hJ36 hy34 hm38; exfalso; omega
                  | succ t39 ih37 =>
                    intro E35 y34 hJ36 hy34 hm38
                    refine v_iload C 7 dX9_mendsTwo_46 rfl ?_
                    refine v_aload_n C 0 dX9_mendsTwo_48 rfl rfl ?_
                    obtain ⟨im40, hM40, hb40⟩ := hJ36.1
                    have hq40 := hM40.b
                    refine v_getr C 68 dX9_mendsTwo_49 fX9_85 (by omega) hM40.2.2.1 rfl rfl ?_
                    refine v_iload_n C 1 dX9_mendsTwo_52 rfl rfl ?_
                    have hE41 := (hJ36.2.1.1 88 (by unfold PT; omega)).trans hgl
                    refine v_ald (v := fl (p.toInt).toNat) C 88 dX9_mendsTwo_53 (by omega) hE41 (ti_in (rfl : Int32.toInt p = _) (by omega) (by omega)) (by rw [ti_cl (rfl : Int32.toInt p = _)]) ?_
                    have := hbl ((p.toInt).toNat)
                    refine b_icmp_ge C 126 dX9_mendsTwo_54 (by decide) (rfl : Int32.toInt y34 = _) (rfl : Int32.toInt (fl (p.toInt).toNat) = _) (fun c42 => ?_) (fun c42 => ?_)
                    · obtain ⟨x43, ex43⟩ : ∃ y : Int32, y = y13 + 1 := ⟨_, rfl⟩
                      have hx43 : x43.toInt = (y13.toInt + 1) := by rw [ex43]; exact ti_add (rfl : Int32.toInt y13 = _) (show (1 : Int32).toInt = 1 by decide) (by omega) (by omega)
                      refine v_iinc (v := x43) (lv' := [(0, .ref (ad 68)), (1, .int p), (2, .int x), (3, .int y), (4, .int y2), (5, .int 1), (6, .int x43), (7, .int y34)]) C 6 [1, 2, 3, 4, 5, 6, 0, 7] dX9_mendsTwo_126 rfl (ex43.symm) (by decide) rfl ?_
                      refine v_goto C 20 dX9_mendsTwo_129 (by decide) ?_
                      refine v_sub (lv' := [(0, .ref (ad 68)), (1, .int p), (2, .int x), (3, .int y), (4, .int y2), (5, .int 1), (6, .int x43)]) [0, 1, 2, 3, 4, 5, 6] rfl ?_
                      exact ih17 _ 1 x43 hJ36 (by have := (show (1 : Int32).toInt = 1 by decide); have := hx43; omega) (by have := (show (1 : Int32).toInt = 1 by decide); have := hx43; omega) (by have := (show (1 : Int32).toInt = 1 by decide); have := hx43; omega) (by have := (show (1 : Int32).toInt = 1 by decide); have := hx43; omega)
                    · refine v_iload C 5 dX9_mendsTwo_57 rfl ?_
                      refine b_if_eq C 126 dX9_mendsTwo_59 (by decide) (show (1 : Int32).toInt = 1 by decide) (fun c44 => absurd c44 (by decide)) (fun c44 => ?_)
                      refine v_iconst (v := 1) C dX9_mendsTwo_62 (by decide) ?_
                      refine v_istore (lv' := [(0, .ref (ad 68)), (1, .int p), (2, .int x), (3, .int y), (4, .int y2), (5, .int 1), (6, .int y13), (7, .int y34), (8, .int 1)]) C [1, 2, 3, 4, 5, 6, 7, 8, 0] dX9_mendsTwo_63 (by decide) rfl ?_
                      refine v_iconst (v := 0) C dX9_mendsTwo_65 (by decide) ?_
                      refine v_istore (lv' := [(0, .ref (ad 68)), (1, .int p), (2, .int x), (3, .int y), (4, .int y2), (5, .int 1), (6, .int y13), (7, .int y34), (8, .int 1), (9, .int 0)]) C [1, 2, 3, 4, 5, 6, 7, 8, 9, 0] dX9_mendsTwo_66 (by decide) rfl ?_
                      have LP45 : ∀ (t : Nat) (E49 : Nat → va_E) (y46 : Int32) (y47 : Int32), JM G ad n ic md (bd) PT E0 E49 → ((0 : Int) ≤ y46.toInt ∧ y46.toInt ≤ 1) → ((0 : Int) ≤ y47.toInt ∧ y47.toInt ≤ 7) → (y46.toInt = 1 → y47.toInt ≤ 6) → 8 - y47.toInt < (t : Int) → V X G A 11 (QI X G A (n) ad (fun r E' => (r = 0 ∨ r = 1) ∧ JM G ad n ic md bd PT E0 E')) n ad 0 0 E49 68 [(0, .ref (ad 68)), (1, .int p), (2, .int x), (3, .int y), (4, .int y2), (5, .int 1), (6, .int y13), (7, .int y34), (8, .int y46), (9, .int y47)] [] := by
                        intro t53
                        induction t53 with
                        | zero => intro E49 y46 y47 hJ50 hy46 hy47 hq48 hm52; exfalso; omega
                        | succ t53 ih51 =>
                          intro E49 y46 y47 hJ50 hy46 hy47 hq48 hm52
                          refine v_iload C 8 dX9_mendsTwo_68 rfl ?_
                          refine b_if_eq C 120 dX9_mendsTwo_70 (by decide) (rfl : Int32.toInt y46 = _) (fun c54 => ?_) (fun c54 => ?_)
                          · obtain ⟨x55, ex55⟩ : ∃ y : Int32, y = y34 + 1 := ⟨_, rfl⟩
                            have hx55 : x55.toInt = (y34.toInt + 1) := by rw [ex55]; exact ti_add (rfl : Int32.toInt y34 = _) (show (1 : Int32).toInt = 1 by decide) (by omega) (by omega)
                            refine v_iinc (v := x55) (lv' := [(0, .ref (ad 68)), (1, .int p), (2, .int x), (3, .int y), (4, .int y2), (5, .int 1), (6, .int y13), (7, .int x55), (8, .int y46), (9, .int y47)]) C 7 [1, 2, 3, 4, 5, 6, 7, 0, 8, 9] dX9_mendsTwo_120 rfl (ex55.symm) (by decide) rfl ?_
                            refine v_goto C 46 dX9_mendsTwo_123 (by decide) ?_
                            refine v_sub (lv' := [(0, .ref (ad 68)), (1, .int p), (2, .int x), (3, .int y), (4, .int y2), (5, .int 1), (6, .int y13), (7, .int x55)]) [0, 1, 2, 3, 4, 5, 6, 7] rfl ?_
                            exact ih37 _ x55 hJ50 (by have := hx55; omega) (by have := hx55; omega)
                          · refine v_aload_n C 0 dX9_mendsTwo_73 rfl rfl ?_
                            refine v_iload_n C 1 dX9_mendsTwo_74 rfl rfl ?_
                            obtain ⟨im59, hM59, hb59⟩ := hJ50.1
                            have hq59 := hM59.b
                            refine v_cVv C dX9_mendsTwo_75 lX9_219 mX9_take 68 (by omega) hM59.2.2.1 (by decide) rfl (t_X9_take l G ad hJ50 hgo hgx hgy hgl hbl p (show (0 : Int) ≤ Int32.toInt p ∧ Int32.toInt p ≤ 5 by omega)) ⟨by decide, by decide⟩ rfl (Nat.le_of_ble_eq_true rfl) ⟨Nat.zero_le _, Nat.zero_le _⟩ (fun E56 hT58 => ?_)
                            obtain ⟨fo58, fx58, fy58, h8958, h9058, h9158, hT58, hJ57⟩ := hT58
                            have hbm58 := hbl (p.toInt).toNat
                            have hox58 : OXm fo58 fx58 ((fl (p.toInt).toNat).toInt).toNat := fun j hj hq => by have q := hT58 j hj; rw [q.1] at hq; rw [q.2.1]; exact hLX _ (by omega) hq
                            refine v_aload_n C 0 dX9_mendsTwo_78 rfl rfl ?_
                            refine v_iload C 4 dX9_mendsTwo_79 rfl ?_
                            refine v_iload C 6 dX9_mendsTwo_81 rfl ?_
                            obtain ⟨im65, hM65, hb65⟩ := hJ57.1
                            have hq65 := hM65.b
                            refine v_cVi C dX9_mendsTwo_83 lX9_292 mX9_changeLine 68 (by omega) hM65.2.2.1 (by decide) rfl (t_X9_changeLine l G ad hJ57 h8958 h9058 hox58 y2 (show (0 : Int) ≤ Int32.toInt y2 ∧ Int32.toInt y2 ≤ 9 by omega) y13 (show (0 : Int) ≤ Int32.toInt y13 ∧ Int32.toInt y13 ≤ 10 by omega)) ⟨by decide, by decide⟩ rfl (Nat.le_of_ble_eq_true rfl) ⟨Nat.zero_le _, Nat.zero_le _⟩ (fun r60 E61 hp62 => ?_)
                            obtain ⟨hp62, fo64, fx64, e8964, e9064, hox64, hJ63⟩ := hp62
                            rcases hp62 with ⟨rfl, hp62⟩ | ⟨rfl, hp62⟩
                            · refine v_istore (lv' := [(0, .ref (ad 68)), (1, .int p), (2, .int x), (3, .int y), (4, .int y2), (5, .int 1), (6, .int y13), (7, .int y34), (8, .int y46), (9, .int y47), (10, .int 1)]) C [1, 2, 3, 4, 5, 6, 7, 8, 9, 10, 0] dX9_mendsTwo_86 (by decide) rfl ?_
                              refine v_aload_n C 0 dX9_mendsTwo_88 rfl rfl ?_
                              refine v_iload C 7 dX9_mendsTwo_89 rfl ?_
                              refine v_iload C 9 dX9_mendsTwo_91 rfl ?_
                              obtain ⟨im71, hM71, hb71⟩ := hJ63.1
                              have hq71 := hM71.b
                              refine v_cVi C dX9_mendsTwo_93 lX9_292 mX9_changeLine 68 (by omega) hM71.2.2.1 (by decide) rfl (t_X9_changeLine l G ad hJ63 e8964 e9064 hox64 y34 (show (0 : Int) ≤ Int32.toInt y34 ∧ Int32.toInt y34 ≤ 9 by omega) y47 (show (0 : Int) ≤ Int32.toInt y47 ∧ Int32.toInt y47 ≤ 10 by omega)) ⟨by decide, by decide⟩ rfl (Nat.le_of_ble_eq_true rfl) ⟨Nat.zero_le _, Nat.zero_le _⟩ (fun r66 E67 hp68 => ?_)
                              obtain ⟨hp68, fo70, fx70, e8970, e9070, hox70, hJ69⟩ := hp68
                              rcases hp68 with ⟨rfl, hp68⟩ | ⟨rfl, hp68⟩
                              · refine v_istore (lv' := [(0, .ref (ad 68)), (1, .int p), (2, .int x), (3, .int y), (4, .int y2), (5, .int 1), (6, .int y13), (7, .int y34), (8, .int 1), (9, .int y47), (10, .int 1)]) C [1, 2, 3, 4, 5, 6, 7, 8, 0, 9, 10] dX9_mendsTwo_96 (by decide) rfl ?_
                                refine v_iload C 8 dX9_mendsTwo_98 rfl ?_
                                refine b_if_eq C 114 dX9_mendsTwo_100 (by decide) (show (1 : Int32).toInt = 1 by decide) (fun c72 => absurd c72 (by decide)) (fun c72 => ?_)
                                refine v_aload_n C 0 dX9_mendsTwo_103 rfl rfl ?_
                                refine v_iload_n C 2 dX9_mendsTwo_104 rfl rfl ?_
                                refine v_iload_n C 3 dX9_mendsTwo_105 rfl rfl ?_
                                obtain ⟨im78, hM78, hb78⟩ := hJ69.1
                                have hq78 := hM78.b
                                refine v_cVi C dX9_mendsTwo_106 lX9_295 mX9_isRight 68 (by omega) hM78.2.2.1 (by decide) rfl (t_X9_isRight l G ad hJ69.self e8970 e9070 (show ((fl (p.toInt).toNat).toInt).toNat ≤ 10 by omega) hox70 (show ((((fl (p.toInt).toNat).toInt).toNat : Nat) : Int) ≤ (fl (p.toInt).toNat).toInt ∧ (fl (p.toInt).toNat).toInt ≤ ((((fl (p.toInt).toNat).toInt).toNat : Nat) : Int) by omega) (show (0 : Int) ≤ (bd 41).1 ∧ (bd 41).2 ≤ 40000 by omega) x (show (0 : Int) ≤ Int32.toInt x ∧ Int32.toInt x ≤ 2147483647 by have := ti_any x; omega) y (by omega)) ⟨by decide, by decide⟩ rfl (Nat.le_of_ble_eq_true rfl) ⟨Nat.zero_le _, Nat.zero_le _⟩ (fun r73 E74 hp75 => ?_)
                                obtain ⟨hp75, hJ76⟩ := hp75
                                have hJ77 := hJ69.trans (fun _ => PT_PR) hJ76
                                have e79 := (hJ76.2.1.1 89 (by unfold PR; omega)).trans e8970
                                have e80 := (hJ76.2.1.1 90 (by unfold PR; omega)).trans e9070
                                rcases hp75 with rfl | rfl
                                · refine b_if_eq C 114 dX9_mendsTwo_109 (by decide) (show (0 : Int32).toInt = 0 by decide) (fun c81 => ?_) (fun c81 => absurd c81 (by decide))
                                  obtain ⟨x82, ex82⟩ : ∃ y : Int32, y = y47 + 1 := ⟨_, rfl⟩
                                  have hx82 : x82.toInt = (y47.toInt + 1) := by rw [ex82]; exact ti_add (rfl : Int32.toInt y47 = _) (show (1 : Int32).toInt = 1 by decide) (by omega) (by omega)
                                  refine v_iinc (v := x82) (lv' := [(0, .ref (ad 68)), (1, .int p), (2, .int x), (3, .int y), (4, .int y2), (5, .int 1), (6, .int y13), (7, .int y34), (8, .int 1), (9, .int x82), (10, .int 1)]) C 9 [1, 2, 3, 4, 5, 6, 7, 8, 9, 0, 10] dX9_mendsTwo_114 rfl (ex82.symm) (by decide) rfl ?_
                                  refine v_goto C 68 dX9_mendsTwo_117 (by decide) ?_
                                  refine v_sub (lv' := [(0, .ref (ad 68)), (1, .int p), (2, .int x), (3, .int y), (4, .int y2), (5, .int 1), (6, .int y13), (7, .int y34), (8, .int 1), (9, .int x82)]) [0, 1, 2, 3, 4, 5, 6, 7, 8, 9] rfl ?_
                                  exact ih51 _ 1 x82 ((hJ77.outB (k := 35) (by decide) (show (bd 35).1 ≤ 0 by omega) (show 8 ≤ (bd 35).2 by omega)).outB (k := 32) (by decide) (show (bd 32).1 ≤ (fl (p.toInt).toNat).toInt by omega) (show (fl (p.toInt).toNat).toInt ≤ (bd 32).2 by omega)) (by have := (show (1 : Int32).toInt = 1 by decide); have := hx82; omega) (by have := (show (1 : Int32).toInt = 1 by decide); have := hx82; omega) (by have := (show (1 : Int32).toInt = 1 by decide); have := hx82; omega) (by have := (show (1 : Int32).toInt = 1 by decide); have := hx82; omega)
                                · refine b_if_eq C 114 dX9_mendsTwo_109 (by decide) (show (1 : Int32).toInt = 1 by decide) (fun c83 => absurd c83 (by decide)) (fun c83 => ?_)
                                  refine v_iconst (v := 1) C dX9_mendsTwo_112 (by decide) ?_
                                  exact v_ret C dX9_mendsTwo_113 rfl rfl ⟨Or.inr rfl, ((hJ77.outB (k := 35) (by decide) (show (bd 35).1 ≤ 0 by omega) (show 8 ≤ (bd 35).2 by omega)).outB (k := 32) (by decide) (show (bd 32).1 ≤ (fl (p.toInt).toNat).toInt by omega) (show (fl (p.toInt).toNat).toInt ≤ (bd 32).2 by omega))⟩
                              · refine v_istore (lv' := [(0, .ref (ad 68)), (1, .int p), (2, .int x), (3, .int y), (4, .int y2), (5, .int 1), (6, .int y13), (7, .int y34), (8, .int 0), (9, .int y47), (10, .int 1)]) C [1, 2, 3, 4, 5, 6, 7, 8, 0, 9, 10] dX9_mendsTwo_96 (by decide) rfl ?_
                                refine v_iload C 8 dX9_mendsTwo_98 rfl ?_
                                refine b_if_eq C 114 dX9_mendsTwo_100 (by decide) (show (0 : Int32).toInt = 0 by decide) (fun c84 => ?_) (fun c84 => absurd c84 (by decide))
                                obtain ⟨x85, ex85⟩ : ∃ y : Int32, y = y47 + 1 := ⟨_, rfl⟩
                                have hx85 : x85.toInt = (y47.toInt + 1) := by rw [ex85]; exact ti_add (rfl : Int32.toInt y47 = _) (show (1 : Int32).toInt = 1 by decide) (by omega) (by omega)
                                refine v_iinc (v := x85) (lv' := [(0, .ref (ad 68)), (1, .int p), (2, .int x), (3, .int y), (4, .int y2), (5, .int 1), (6, .int y13), (7, .int y34), (8, .int 0), (9, .int x85), (10, .int 1)]) C 9 [1, 2, 3, 4, 5, 6, 7, 8, 9, 0, 10] dX9_mendsTwo_114 rfl (ex85.symm) (by decide) rfl ?_
                                refine v_goto C 68 dX9_mendsTwo_117 (by decide) ?_
                                refine v_sub (lv' := [(0, .ref (ad 68)), (1, .int p), (2, .int x), (3, .int y), (4, .int y2), (5, .int 1), (6, .int y13), (7, .int y34), (8, .int 0), (9, .int x85)]) [0, 1, 2, 3, 4, 5, 6, 7, 8, 9] rfl ?_
                                exact ih51 _ 0 x85 (hJ69.outB (k := 32) (by decide) (show (bd 32).1 ≤ (fl (p.toInt).toNat).toInt by omega) (show (fl (p.toInt).toNat).toInt ≤ (bd 32).2 by omega)) (by have := (show (0 : Int32).toInt = 0 by decide); have := hx85; omega) (by have := (show (0 : Int32).toInt = 0 by decide); have := hx85; omega) (by have := (show (0 : Int32).toInt = 0 by decide); have := hx85; omega) (by have := (show (0 : Int32).toInt = 0 by decide); have := hx85; omega)
                            · refine v_istore (lv' := [(0, .ref (ad 68)), (1, .int p), (2, .int x), (3, .int y), (4, .int y2), (5, .int 1), (6, .int y13), (7, .int y34), (8, .int y46), (9, .int y47), (10, .int 0)]) C [1, 2, 3, 4, 5, 6, 7, 8, 9, 10, 0] dX9_mendsTwo_86 (by decide) rfl ?_
                              refine v_aload_n C 0 dX9_mendsTwo_88 rfl rfl ?_
                              refine v_iload C 7 dX9_mendsTwo_89 rfl ?_
                              refine v_iload C 9 dX9_mendsTwo_91 rfl ?_
                              obtain ⟨im91, hM91, hb91⟩ := hJ63.1
                              have hq91 := hM91.b
                              refine v_cVi C dX9_mendsTwo_93 lX9_292 mX9_changeLine 68 (by omega) hM91.2.2.1 (by decide) rfl (t_X9_changeLine l G ad hJ63 e8964 e9064 hox64 y34 (show (0 : Int) ≤ Int32.toInt y34 ∧ Int32.toInt y34 ≤ 9 by omega) y47 (show (0 : Int) ≤ Int32.toInt y47 ∧ Int32.toInt y47 ≤ 10 by omega)) ⟨by decide, by decide⟩ rfl (Nat.le_of_ble_eq_true rfl) ⟨Nat.zero_le _, Nat.zero_le _⟩ (fun r86 E87 hp88 => ?_)
                              obtain ⟨hp88, fo90, fx90, e8990, e9090, hox90, hJ89⟩ := hp88
                              rcases hp88 with ⟨rfl, hp88⟩ | ⟨rfl, hp88⟩
                              · refine v_istore (lv' := [(0, .ref (ad 68)), (1, .int p), (2, .int x), (3, .int y), (4, .int y2), (5, .int 1), (6, .int y13), (7, .int y34), (8, .int 1), (9, .int y47), (10, .int 0)]) C [1, 2, 3, 4, 5, 6, 7, 8, 0, 9, 10] dX9_mendsTwo_96 (by decide) rfl ?_
                                refine v_iload C 8 dX9_mendsTwo_98 rfl ?_
                                refine b_if_eq C 114 dX9_mendsTwo_100 (by decide) (show (1 : Int32).toInt = 1 by decide) (fun c92 => absurd c92 (by decide)) (fun c92 => ?_)
                                refine v_aload_n C 0 dX9_mendsTwo_103 rfl rfl ?_
                                refine v_iload_n C 2 dX9_mendsTwo_104 rfl rfl ?_
                                refine v_iload_n C 3 dX9_mendsTwo_105 rfl rfl ?_
                                obtain ⟨im98, hM98, hb98⟩ := hJ89.1
                                have hq98 := hM98.b
                                refine v_cVi C dX9_mendsTwo_106 lX9_295 mX9_isRight 68 (by omega) hM98.2.2.1 (by decide) rfl (t_X9_isRight l G ad hJ89.self e8990 e9090 (show ((fl (p.toInt).toNat).toInt).toNat ≤ 10 by omega) hox90 (show ((((fl (p.toInt).toNat).toInt).toNat : Nat) : Int) ≤ (fl (p.toInt).toNat).toInt ∧ (fl (p.toInt).toNat).toInt ≤ ((((fl (p.toInt).toNat).toInt).toNat : Nat) : Int) by omega) (show (0 : Int) ≤ (bd 41).1 ∧ (bd 41).2 ≤ 40000 by omega) x (show (0 : Int) ≤ Int32.toInt x ∧ Int32.toInt x ≤ 2147483647 by have := ti_any x; omega) y (by omega)) ⟨by decide, by decide⟩ rfl (Nat.le_of_ble_eq_true rfl) ⟨Nat.zero_le _, Nat.zero_le _⟩ (fun r93 E94 hp95 => ?_)
                                obtain ⟨hp95, hJ96⟩ := hp95
                                have hJ97 := hJ89.trans (fun _ => PT_PR) hJ96
                                have e99 := (hJ96.2.1.1 89 (by unfold PR; omega)).trans e8990
                                have e100 := (hJ96.2.1.1 90 (by unfold PR; omega)).trans e9090
                                rcases hp95 with rfl | rfl
                                · refine b_if_eq C 114 dX9_mendsTwo_109 (by decide) (show (0 : Int32).toInt = 0 by decide) (fun c101 => ?_) (fun c101 => absurd c101 (by decide))
                                  obtain ⟨x102, ex102⟩ : ∃ y : Int32, y = y47 + 1 := ⟨_, rfl⟩
                                  have hx102 : x102.toInt = (y47.toInt + 1) := by rw [ex102]; exact ti_add (rfl : Int32.toInt y47 = _) (show (1 : Int32).toInt = 1 by decide) (by omega) (by omega)
                                  refine v_iinc (v := x102) (lv' := [(0, .ref (ad 68)), (1, .int p), (2, .int x), (3, .int y), (4, .int y2), (5, .int 1), (6, .int y13), (7, .int y34), (8, .int 1), (9, .int x102), (10, .int 0)]) C 9 [1, 2, 3, 4, 5, 6, 7, 8, 9, 0, 10] dX9_mendsTwo_114 rfl (ex102.symm) (by decide) rfl ?_
                                  refine v_goto C 68 dX9_mendsTwo_117 (by decide) ?_
                                  refine v_sub (lv' := [(0, .ref (ad 68)), (1, .int p), (2, .int x), (3, .int y), (4, .int y2), (5, .int 1), (6, .int y13), (7, .int y34), (8, .int 1), (9, .int x102)]) [0, 1, 2, 3, 4, 5, 6, 7, 8, 9] rfl ?_
                                  exact ih51 _ 1 x102 ((hJ97.outB (k := 35) (by decide) (show (bd 35).1 ≤ 0 by omega) (show 8 ≤ (bd 35).2 by omega)).outB (k := 32) (by decide) (show (bd 32).1 ≤ (fl (p.toInt).toNat).toInt by omega) (show (fl (p.toInt).toNat).toInt ≤ (bd 32).2 by omega)) (by have := (show (1 : Int32).toInt = 1 by decide); have := hx102; omega) (by have := (show (1 : Int32).toInt = 1 by decide); have := hx102; omega) (by have := (show (1 : Int32).toInt = 1 by decide); have := hx102; omega) (by have := (show (1 : Int32).toInt = 1 by decide); have := hx102; omega)
                                · refine b_if_eq C 114 dX9_mendsTwo_109 (by decide) (show (1 : Int32).toInt = 1 by decide) (fun c103 => absurd c103 (by decide)) (fun c103 => ?_)
                                  refine v_iconst (v := 1) C dX9_mendsTwo_112 (by decide) ?_
                                  exact v_ret C dX9_mendsTwo_113 rfl rfl ⟨Or.inr rfl, ((hJ97.outB (k := 35) (by decide) (show (bd 35).1 ≤ 0 by omega) (show 8 ≤ (bd 35).2 by omega)).outB (k := 32) (by decide) (show (bd 32).1 ≤ (fl (p.toInt).toNat).toInt by omega) (show (fl (p.toInt).toNat).toInt ≤ (bd 32).2 by omega))⟩
                              · refine v_istore (lv' := [(0, .ref (ad 68)), (1, .int p), (2, .int x), (3, .int y), (4, .int y2), (5, .int 1), (6, .int y13), (7, .int y34), (8, .int 0), (9, .int y47), (10, .int 0)]) C [1, 2, 3, 4, 5, 6, 7, 8, 0, 9, 10] dX9_mendsTwo_96 (by decide) rfl ?_
                                refine v_iload C 8 dX9_mendsTwo_98 rfl ?_
                                refine b_if_eq C 114 dX9_mendsTwo_100 (by decide) (show (0 : Int32).toInt = 0 by decide) (fun c104 => ?_) (fun c104 => absurd c104 (by decide))
                                obtain ⟨x105, ex105⟩ : ∃ y : Int32, y = y47 + 1 := ⟨_, rfl⟩
                                have hx105 : x105.toInt = (y47.toInt + 1) := by rw [ex105]; exact ti_add (rfl : Int32.toInt y47 = _) (show (1 : Int32).toInt = 1 by decide) (by omega) (by omega)
                                refine v_iinc (v := x105) (lv' := [(0, .ref (ad 68)), (1, .int p), (2, .int x), (3, .int y), (4, .int y2), (5, .int 1), (6, .int y13), (7, .int y34), (8, .int 0), (9, .int x105), (10, .int 0)]) C 9 [1, 2, 3, 4, 5, 6, 7, 8, 9, 0, 10] dX9_mendsTwo_114 rfl (ex105.symm) (by decide) rfl ?_
                                refine v_goto C 68 dX9_mendsTwo_117 (by decide) ?_
                                refine v_sub (lv' := [(0, .ref (ad 68)), (1, .int p), (2, .int x), (3, .int y), (4, .int y2), (5, .int 1), (6, .int y13), (7, .int y34), (8, .int 0), (9, .int x105)]) [0, 1, 2, 3, 4, 5, 6, 7, 8, 9] rfl ?_
                                exact ih51 _ 0 x105 (hJ89.outB (k := 32) (by decide) (show (bd 32).1 ≤ (fl (p.toInt).toNat).toInt by omega) (show (fl (p.toInt).toNat).toInt ≤ (bd 32).2 by omega)) (by have := (show (0 : Int32).toInt = 0 by decide); have := hx105; omega) (by have := (show (0 : Int32).toInt = 0 by decide); have := hx105; omega) (by have := (show (0 : Int32).toInt = 0 by decide); have := hx105; omega) (by have := (show (0 : Int32).toInt = 0 by decide); have := hx105; omega)
                      exact LP45 100000 _ 1 0 hJ36 (by have := (show (1 : Int32).toInt = 1 by decide); have := (show (0 : Int32).toInt = 0 by decide); omega) (by have := (show (1 : Int32).toInt = 1 by decide); have := (show (0 : Int32).toInt = 0 by decide); omega) (by have := (show (1 : Int32).toInt = 1 by decide); have := (show (0 : Int32).toInt = 0 by decide); omega) (by have := (show (1 : Int32).toInt = 1 by decide); have := (show (0 : Int32).toInt = 0 by decide); omega)
                exact LP33 100000 _ x32 (hJ29.outB (k := 32) (by decide) (show (bd 32).1 ≤ (fl (p.toInt).toNat).toInt by omega) (show (fl (p.toInt).toNat).toInt ≤ (bd 32).2 by omega)) (by have := hx32; omega) (by have := hx32; omega)
              · refine v_istore (lv' := [(0, .ref (ad 68)), (1, .int p), (2, .int x), (3, .int y), (4, .int y2), (5, .int 0), (6, .int y13)]) C [1, 2, 3, 4, 5, 0, 6] dX9_mendsTwo_38 (by decide) rfl ?_
                refine v_iload C 4 dX9_mendsTwo_40 rfl ?_
                refine v_iconst (v := 1) C dX9_mendsTwo_42 (by decide) ?_
                refine v_iadd C dX9_mendsTwo_43 ?_
                refine v_top (fun x106 ex106 => ?_)
                have hx106 : x106.toInt = (y2.toInt + 1) := by rw [ex106]; exact ti_add (rfl : Int32.toInt y2 = _) (show (1 : Int32).toInt = 1 by decide) (by omega) (by omega)
                refine v_istore (lv' := [(0, .ref (ad 68)), (1, .int p), (2, .int x), (3, .int y), (4, .int y2), (5, .int 0), (6, .int y13), (7, .int x106)]) C [1, 2, 3, 4, 5, 6, 7, 0] dX9_mendsTwo_44 (by decide) rfl ?_
                have LP107 : ∀ (t : Nat) (E109 : Nat → va_E) (y108 : Int32), JM G ad n ic md (bd) PT E0 E109 → ((0 : Int) ≤ y108.toInt ∧ y108.toInt ≤ 10) → 11 - y108.toInt < (t : Int) → V X G A 11 (QI X G A (n) ad (fun r E' => (r = 0 ∨ r = 1) ∧ JM G ad n ic md bd PT E0 E')) n ad 0 0 E109 46 [(0, .ref (ad 68)), (1, .int p), (2, .int x), (3, .int y), (4, .int y2), (5, .int 0), (6, .int y13), (7, .int y108)] [] := by
                  intro t113
                  induction t113 with
                  | zero => intro E109 y108 hJ110 hy108 hm112; exfalso; omega
                  | succ t113 ih111 =>
                    intro E109 y108 hJ110 hy108 hm112
                    refine v_iload C 7 dX9_mendsTwo_46 rfl ?_
                    refine v_aload_n C 0 dX9_mendsTwo_48 rfl rfl ?_
                    obtain ⟨im114, hM114, hb114⟩ := hJ110.1
                    have hq114 := hM114.b
                    refine v_getr C 68 dX9_mendsTwo_49 fX9_85 (by omega) hM114.2.2.1 rfl rfl ?_
                    refine v_iload_n C 1 dX9_mendsTwo_52 rfl rfl ?_
                    have hE115 := (hJ110.2.1.1 88 (by unfold PT; omega)).trans hgl
                    refine v_ald (v := fl (p.toInt).toNat) C 88 dX9_mendsTwo_53 (by omega) hE115 (ti_in (rfl : Int32.toInt p = _) (by omega) (by omega)) (by rw [ti_cl (rfl : Int32.toInt p = _)]) ?_
                    have := hbl ((p.toInt).toNat)
                    refine b_icmp_ge C 126 dX9_mendsTwo_54 (by decide) (rfl : Int32.toInt y108 = _) (rfl : Int32.toInt (fl (p.toInt).toNat) = _) (fun c116 => ?_) (fun c116 => ?_)
                    · obtain ⟨x117, ex117⟩ : ∃ y : Int32, y = y13 + 1 := ⟨_, rfl⟩
                      have hx117 : x117.toInt = (y13.toInt + 1) := by rw [ex117]; exact ti_add (rfl : Int32.toInt y13 = _) (show (1 : Int32).toInt = 1 by decide) (by omega) (by omega)
                      refine v_iinc (v := x117) (lv' := [(0, .ref (ad 68)), (1, .int p), (2, .int x), (3, .int y), (4, .int y2), (5, .int 0), (6, .int x117), (7, .int y108)]) C 6 [1, 2, 3, 4, 5, 6, 0, 7] dX9_mendsTwo_126 rfl (ex117.symm) (by decide) rfl ?_
                      refine v_goto C 20 dX9_mendsTwo_129 (by decide) ?_
                      refine v_sub (lv' := [(0, .ref (ad 68)), (1, .int p), (2, .int x), (3, .int y), (4, .int y2), (5, .int 0), (6, .int x117)]) [0, 1, 2, 3, 4, 5, 6] rfl ?_
                      exact ih17 _ 0 x117 hJ110 (by have := (show (0 : Int32).toInt = 0 by decide); have := hx117; omega) (by have := (show (0 : Int32).toInt = 0 by decide); have := hx117; omega) (by have := (show (0 : Int32).toInt = 0 by decide); have := hx117; omega) (by have := (show (0 : Int32).toInt = 0 by decide); have := hx117; omega)
                    · refine v_iload C 5 dX9_mendsTwo_57 rfl ?_
                      refine b_if_eq C 126 dX9_mendsTwo_59 (by decide) (show (0 : Int32).toInt = 0 by decide) (fun c118 => ?_) (fun c118 => absurd c118 (by decide))
                      obtain ⟨x119, ex119⟩ : ∃ y : Int32, y = y13 + 1 := ⟨_, rfl⟩
                      have hx119 : x119.toInt = (y13.toInt + 1) := by rw [ex119]; exact ti_add (rfl : Int32.toInt y13 = _) (show (1 : Int32).toInt = 1 by decide) (by omega) (by omega)
                      refine v_iinc (v := x119) (lv' := [(0, .ref (ad 68)), (1, .int p), (2, .int x), (3, .int y), (4, .int y2), (5, .int 0), (6, .int x119), (7, .int y108)]) C 6 [1, 2, 3, 4, 5, 6, 0, 7] dX9_mendsTwo_126 rfl (ex119.symm) (by decide) rfl ?_
                      refine v_goto C 20 dX9_mendsTwo_129 (by decide) ?_
                      refine v_sub (lv' := [(0, .ref (ad 68)), (1, .int p), (2, .int x), (3, .int y), (4, .int y2), (5, .int 0), (6, .int x119)]) [0, 1, 2, 3, 4, 5, 6] rfl ?_
                      exact ih17 _ 0 x119 hJ110 (by have := (show (0 : Int32).toInt = 0 by decide); have := hx119; omega) (by have := (show (0 : Int32).toInt = 0 by decide); have := hx119; omega) (by have := (show (0 : Int32).toInt = 0 by decide); have := hx119; omega) (by have := (show (0 : Int32).toInt = 0 by decide); have := hx119; omega)
                exact LP107 100000 _ x106 (hJ29.outB (k := 32) (by decide) (show (bd 32).1 ≤ (fl (p.toInt).toNat).toInt by omega) (show (fl (p.toInt).toNat).toInt ≤ (bd 32).2 by omega)) (by have := hx106; omega) (by have := hx106; omega)
        exact LP11 100000 _ 1 0 hJ4 (by have := (show (1 : Int32).toInt = 1 by decide); have := (show (0 : Int32).toInt = 0 by decide); omega) (by have := (show (1 : Int32).toInt = 1 by decide); have := (show (0 : Int32).toInt = 0 by decide); omega) (by have := (show (1 : Int32).toInt = 1 by decide); have := (show (0 : Int32).toInt = 0 by decide); omega) (by have := (show (1 : Int32).toInt = 1 by decide); have := (show (0 : Int32).toInt = 0 by decide); omega)
  exact LP1 100000 _ 0 hJ (by have := (show (0 : Int32).toInt = 0 by decide); omega) (by have := (show (0 : Int32).toInt = 0 by decide); omega)

set_option maxRecDepth 20000 in
theorem t_X9_keepMended (l : Launch) (G : Gl) (ad : Nat → Nat) {n : Nat} {ic md : Nat → Int32} {bd : Nat → Int × Int} {E0 E : Nat → va_E} (hJ : JM G ad n ic md bd PT E0 E) (hf32 : (0 : Int) ≤ (bd 32).1 ∧ (bd 32).2 ≤ 10) (hf39 : ((0 : Int) ≤ (bd 39).1 ∧ (bd 39).2 ≤ 10) ∧ ((bd 39).1 ≤ 0 ∧ 10 ≤ (bd 39).2)) : CtV l G yX9_keepMended cX9_keepMended 2 0 0 (n) ad E [.ref (ad 68)] (fun E' => JM G ad n ic md bd PT E0 E') := by
  refine CtV.of (by decide) (Nat.le_of_ble_eq_true rfl) (fun X A C => ?_)
  refine v_sub (lv' := [(0, .ref (ad 68))]) [0] rfl ?_
  have hn := hJ.hn
  have hz16 := hJ.2.2.2.2
  refine v_aload_n C 0 dX9_keepMended_0 rfl rfl ?_
  refine v_aload_n C 0 dX9_keepMended_1 rfl rfl ?_
  obtain ⟨im1, hM1, hb1⟩ := hJ.1
  have hq1 := hM1.b
  refine v_geti (v := im1 32) C 68 dX9_keepMended_2 fX9_200 (by omega) hM1.2.2.1 rfl rfl ?_
  have him1_32r : (bd 32).1 ≤ (im1 32).toInt ∧ (im1 32).toInt ≤ (bd 32).2 := hb1 32
  have him1_32 : (0 : Int) ≤ (im1 32).toInt ∧ (im1 32).toInt ≤ 10 := by omega
  refine v_puti C 68 dX9_keepMended_5 fX9_289 (by omega) hM1.2.2.1 rfl rfl rfl rfl (fun E2 hE2_68 oE2 => ?_)
  obtain ⟨hJ3, hM4, hb5⟩ := hJ.putN hM1 hb1 (k := 39) (v := (im1 32)) (by decide) (by unfold PT; omega) hE2_68 oE2
  refine v_iconst (v := 0) C dX9_keepMended_8 (by decide) ?_
  refine v_istore_n (lv' := [(0, .ref (ad 68)), (1, .int 0)]) C [1, 0] dX9_keepMended_9 rfl (by decide) rfl ?_
  have LP6 : ∀ (t : Nat) (E8 : Nat → va_E) (y7 : Int32), JM G ad n ic md (upB bd 39 ((im1 32).toInt, (im1 32).toInt)) PT E0 E8 → ((0 : Int) ≤ y7.toInt ∧ y7.toInt ≤ 10) → 11 - y7.toInt < (t : Int) → V X G A 2 (QV X G A (n) ad (fun E' => JM G ad n ic md bd PT E0 E')) n ad 0 0 E8 10 [(0, .ref (ad 68)), (1, .int y7)] [] := by
    intro t12
    induction t12 with
    | zero => intro E8 y7 hJ9 hy7 hm11; exfalso; omega
    | succ t12 ih10 =>
      intro E8 y7 hJ9 hy7 hm11
      refine v_iload_n C 1 dX9_keepMended_10 rfl rfl ?_
      refine v_aload_n C 0 dX9_keepMended_11 rfl rfl ?_
      obtain ⟨im13, hM13, hb13⟩ := hJ9.1
      have hq13 := hM13.b
      refine v_geti (v := im13 32) C 68 dX9_keepMended_12 fX9_200 (by omega) hM13.2.2.1 rfl rfl ?_
      have him13_32r : (bd 32).1 ≤ (im13 32).toInt ∧ (im13 32).toInt ≤ (bd 32).2 := hb13 32
      have him13_32 : (0 : Int) ≤ (im13 32).toInt ∧ (im13 32).toInt ≤ 10 := by omega
      refine b_icmp_ge C 60 dX9_keepMended_15 (by decide) (rfl : Int32.toInt y7 = _) (rfl : Int32.toInt (im13 32) = _) (fun c14 => ?_) (fun c14 => ?_)
      · exact v_vret C dX9_keepMended_60 rfl (hJ9.outB (k := 39) (by decide) (show (bd 39).1 ≤ (im1 32).toInt by omega) (show (im1 32).toInt ≤ (bd 39).2 by omega))
      · refine v_aload_n C 0 dX9_keepMended_18 rfl rfl ?_
        refine v_getr C 68 dX9_keepMended_19 fX9_103 (by omega) hM13.2.2.1 rfl rfl ?_
        refine v_iload_n C 1 dX9_keepMended_22 rfl rfl ?_
        refine v_aload_n C 0 dX9_keepMended_23 rfl rfl ?_
        refine v_getr C 68 dX9_keepMended_24 fX9_88 (by omega) hM13.2.2.1 rfl rfl ?_
        refine v_iload_n C 1 dX9_keepMended_27 rfl rfl ?_
        obtain ⟨f16, hE16, hb16⟩ := hJ9.2.1.getA (b := 89) (by omega) rfl
        refine v_ald (v := f16 (y7.toInt).toNat) C 89 dX9_keepMended_28 (by omega) hE16 (ti_in (rfl : Int32.toInt y7 = _) (by omega) (by omega)) (by rw [ti_cl (rfl : Int32.toInt y7 = _)]) ?_
        refine v_top (fun x17 _ => ?_)
        obtain ⟨f19, hE19, hb19⟩ := hJ9.2.1.getA (b := 94) (by omega) rfl
        refine v_ast C 94 dX9_keepMended_29 (by omega) hE19 (ti_in (rfl : Int32.toInt y7 = _) (by omega) (by omega)) (fun E20 hE20_94 oE20 => ?_)
        rw [ti_cl (rfl : Int32.toInt y7 = _)] at hE20_94
        have hE20_68 := (oE20 68 (by decide)).trans hM13.2.2.1
        have hE20_89 := (oE20 89 (by decide)).trans hE16
        have hJ21 := hJ9.with (hJ9.2.1.setA rfl (by unfold PT; omega) hb19 (ti_any x17) hE20_94 oE20) (oE20 68 (by decide)) (oE20 69 (by decide)) (oE20 70 (by decide))
        have hM22 := hM13.of (oE20 68 (by decide)) (oE20 69 (by decide)) (oE20 70 (by decide))
        refine v_aload_n C 0 dX9_keepMended_30 rfl rfl ?_
        refine v_getr C 68 dX9_keepMended_31 fX9_106 (by omega) hM22.2.2.1 rfl rfl ?_
        refine v_iload_n C 1 dX9_keepMended_34 rfl rfl ?_
        refine v_aload_n C 0 dX9_keepMended_35 rfl rfl ?_
        refine v_getr C 68 dX9_keepMended_36 fX9_91 (by omega) hM22.2.2.1 rfl rfl ?_
        refine v_iload_n C 1 dX9_keepMended_39 rfl rfl ?_
        obtain ⟨f24, hE24, hb24⟩ := hJ21.2.1.getA (b := 90) (by omega) rfl
        refine v_ald (v := f24 (y7.toInt).toNat) C 90 dX9_keepMended_40 (by omega) hE24 (ti_in (rfl : Int32.toInt y7 = _) (by omega) (by omega)) (by rw [ti_cl (rfl : Int32.toInt y7 = _)]) ?_
        refine v_top (fun x25 _ => ?_)
        obtain ⟨f27, hE27, hb27⟩ := hJ21.2.1.getA (b := 95) (by omega) rfl
        refine v_ast C 95 dX9_keepMended_41 (by omega) hE27 (ti_in (rfl : Int32.toInt y7 = _) (by omega) (by omega)) (fun E28 hE28_95 oE28 => ?_)
        rw [ti_cl (rfl : Int32.toInt y7 = _)] at hE28_95
        have hE28_68 := (oE28 68 (by decide)).trans hM22.2.2.1
        have hE28_89 := (oE28 89 (by decide)).trans hE20_89
        have hE28_90 := (oE28 90 (by decide)).trans hE24
        have hJ29 := hJ21.with (hJ21.2.1.setA rfl (by unfold PT; omega) hb27 (ti_any x25) hE28_95 oE28) (oE28 68 (by decide)) (oE28 69 (by decide)) (oE28 70 (by decide))
        have hM30 := hM22.of (oE28 68 (by decide)) (oE28 69 (by decide)) (oE28 70 (by decide))
        refine v_aload_n C 0 dX9_keepMended_42 rfl rfl ?_
        refine v_getr C 68 dX9_keepMended_43 fX9_109 (by omega) hM30.2.2.1 rfl rfl ?_
        refine v_iload_n C 1 dX9_keepMended_46 rfl rfl ?_
        refine v_aload_n C 0 dX9_keepMended_47 rfl rfl ?_
        refine v_getr C 68 dX9_keepMended_48 fX9_94 (by omega) hM30.2.2.1 rfl rfl ?_
        refine v_iload_n C 1 dX9_keepMended_51 rfl rfl ?_
        obtain ⟨f32, hE32, hb32⟩ := hJ29.2.1.getA (b := 91) (by omega) rfl
        refine v_ald (v := f32 (y7.toInt).toNat) C 91 dX9_keepMended_52 (by omega) hE32 (ti_in (rfl : Int32.toInt y7 = _) (by omega) (by omega)) (by rw [ti_cl (rfl : Int32.toInt y7 = _)]) ?_
        refine v_top (fun x33 _ => ?_)
        obtain ⟨f35, hE35, hb35⟩ := hJ29.2.1.getA (b := 96) (by omega) rfl
        refine v_ast C 96 dX9_keepMended_53 (by omega) hE35 (ti_in (rfl : Int32.toInt y7 = _) (by omega) (by omega)) (fun E36 hE36_96 oE36 => ?_)
        rw [ti_cl (rfl : Int32.toInt y7 = _)] at hE36_96
        have hE36_68 := (oE36 68 (by decide)).trans hM30.2.2.1
        have hE36_89 := (oE36 89 (by decide)).trans hE28_89
        have hE36_90 := (oE36 90 (by decide)).trans hE28_90
        have hE36_91 := (oE36 91 (by decide)).trans hE32
        have hJ37 := hJ29.with (hJ29.2.1.setA rfl (by unfold PT; omega) hb35 (ti_any x33) hE36_96 oE36) (oE36 68 (by decide)) (oE36 69 (by decide)) (oE36 70 (by decide))
        have hM38 := hM30.of (oE36 68 (by decide)) (oE36 69 (by decide)) (oE36 70 (by decide))
        obtain ⟨x39, ex39⟩ : ∃ y : Int32, y = y7 + 1 := ⟨_, rfl⟩
        have hx39 : x39.toInt = (y7.toInt + 1) := by rw [ex39]; exact ti_add (rfl : Int32.toInt y7 = _) (show (1 : Int32).toInt = 1 by decide) (by omega) (by omega)
        refine v_iinc (v := x39) (lv' := [(0, .ref (ad 68)), (1, .int x39)]) C 1 [1, 0] dX9_keepMended_54 rfl (ex39.symm) (by decide) rfl ?_
        refine v_goto C 10 dX9_keepMended_57 (by decide) ?_
        exact ih10 _ x39 hJ37 (by have := hx39; omega) (by have := hx39; omega)
  exact LP6 100000 _ 0 hJ3 (by have := (show (0 : Int32).toInt = 0 by decide); omega) (by have := (show (0 : Int32).toInt = 0 by decide); omega)

set_option maxRecDepth 20000 in
theorem t_X9_mend (l : Launch) (G : Gl) (ad : Nat → Nat) {n : Nat} {ic md : Nat → Int32} {bd : Nat → Int × Int} {E0 E : Nat → va_E} (hJ : JM G ad n ic md bd PT E0 E) {gop gx gy fl : Nat → Int32} (hgo : E0 85 = aI G 60 gop) (hgx : E0 86 = aI G 60 gx) (hgy : E0 87 = aI G 60 gy) (hgl : E0 88 = aI G 6 fl) (hbl : ∀ k, 0 ≤ (fl k).toInt ∧ (fl k).toInt ≤ 10) (hLX : LXg gop gx) (hf32 : ((0 : Int) ≤ (bd 32).1 ∧ (bd 32).2 ≤ 10) ∧ ((bd 32).1 ≤ 0 ∧ 10 ≤ (bd 32).2)) (hf35 : ((0 : Int) ≤ (bd 35).1 ∧ (bd 35).2 ≤ 8) ∧ ((bd 35).1 ≤ 0 ∧ 8 ≤ (bd 35).2)) (hf41 : ((0 : Int) ≤ (bd 41).1 ∧ (bd 41).2 ≤ 40000) ∧ ((bd 41).1 ≤ 0 ∧ 40000 ≤ (bd 41).2)) (hf39 : ((0 : Int) ≤ (bd 39).1 ∧ (bd 39).2 ≤ 10) ∧ ((bd 39).1 ≤ 0 ∧ 10 ≤ (bd 39).2)) (p : Int32) (x : Int32) (y : Int32) (u : Int32) (v : Int32) : CtI l G yX9_mend cX9_mend 7 .int 12 298 (n) ad E [.ref (ad 68), .int p, .int x, .int y, .int u, .int v] (fun r E' => ((-2147483648 : Int) ≤ r.toInt ∧ r.toInt ≤ 2147483647) ∧ JM G ad n ic md bd PT E0 E') := by
  refine CtI.of (by decide) (Nat.le_of_ble_eq_true rfl) (fun X A C => ?_)
  refine v_sub (lv' := [(0, .ref (ad 68)), (1, .int p), (2, .int x), (3, .int y), (4, .int u), (5, .int v)]) [0, 1, 2, 3, 4, 5] rfl ?_
  have hn := hJ.hn
  have hz16 := hJ.2.2.2.2
  refine v_iload_n C 1 dX9_mend_0 rfl rfl ?_
  refine v_cSp C dX9_mend_1 lX9_194 mX9_isProgram (t_X9_isProgram l G ad hJ.self p) ⟨by decide, by decide⟩ rfl (Nat.le_of_ble_eq_true rfl) ⟨Nat.zero_le _, Nat.zero_le _⟩ (fun r1 hp2 => ?_)
  rcases hp2 with ⟨rfl, hp2⟩ | ⟨rfl, hp2⟩
  · refine b_if_eq C 29 dX9_mend_4 (by decide) (show (1 : Int32).toInt = 1 by decide) (fun c3 => absurd c3 (by decide)) (fun c3 => ?_)
    refine v_aload_n C 0 dX9_mend_7 rfl rfl ?_
    refine v_iload_n C 2 dX9_mend_8 rfl rfl ?_
    refine v_iload_n C 3 dX9_mend_9 rfl rfl ?_
    obtain ⟨im6, hM6, hb6⟩ := hJ.1
    have hq6 := hM6.b
    refine v_cVp C dX9_mend_10 lX9_259 mX9_isLaw 68 (by omega) hM6.2.2.1 (by decide) rfl (t_X9_isLaw l G ad hJ.self x y) ⟨by decide, by decide⟩ rfl (Nat.le_of_ble_eq_true rfl) ⟨Nat.zero_le _, Nat.zero_le _⟩ (fun r4 hp5 => ?_)
    rcases hp5 with ⟨rfl, hp5⟩ | ⟨rfl, hp5⟩
    · refine b_if_eq C 29 dX9_mend_13 (by decide) (show (1 : Int32).toInt = 1 by decide) (fun c7 => absurd c7 (by decide)) (fun c7 => ?_)
      refine v_iload C 4 dX9_mend_16 rfl ?_
      refine v_iload C 5 dX9_mend_18 rfl ?_
      refine v_ldcw C dX9_mend_20 kX9_298 ?_
      refine v_cSp C dX9_mend_23 lX9_283 mX9_isRow (t_X9_isRow l G ad hJ.self u v 100000 (show (0 : Int) ≤ Int32.toInt 100000 ∧ Int32.toInt 100000 ≤ 2000000 by decide)) ⟨by decide, by decide⟩ rfl (Nat.le_of_ble_eq_true rfl) ⟨Nat.zero_le _, Nat.zero_le _⟩ (fun r8 hp9 => ?_)
      have := (show (100000 : Int32).toInt = 100000 by decide)
      rcases hp9 with ⟨rfl, hp9⟩ | ⟨rfl, hp9⟩
      · refine b_if_ne C 31 dX9_mend_26 (by decide) (show (1 : Int32).toInt = 1 by decide) (fun c10 => ?_) (fun c10 => absurd c10 (by decide))
        refine v_aload_n C 0 dX9_mend_31 rfl rfl ?_
        refine v_iload C 4 dX9_mend_32 rfl ?_
        refine v_iload C 4 dX9_mend_34 rfl ?_
        refine v_iload C 5 dX9_mend_36 rfl ?_
        refine v_iadd C dX9_mend_38 ?_
        refine v_top (fun x11 ex11 => ?_)
        have hx11 : x11.toInt = (u.toInt + v.toInt) := by rw [ex11]; exact ti_add (rfl : Int32.toInt u = _) (rfl : Int32.toInt v = _) (by omega) (by omega)
        refine v_cVv C dX9_mend_39 lX9_280 mX9_findOdds 68 (by omega) hM6.2.2.1 (by decide) rfl (t_X9_findOdds l G ad hJ.self (show ((0 : Int) ≤ (bd 41).1 ∧ (bd 41).2 ≤ 40000) ∧ ((bd 41).1 ≤ (0 : Int) ∧ 40000 ≤ (bd 41).2) by omega) u (show (0 : Int) ≤ Int32.toInt u ∧ Int32.toInt u ≤ 59999999 by omega) x11 (show (0 : Int) ≤ Int32.toInt x11 ∧ Int32.toInt x11 ≤ 59999999 by have := hx11; omega) (by omega)) ⟨by decide, by decide⟩ rfl (Nat.le_of_ble_eq_true rfl) ⟨Nat.zero_le _, Nat.zero_le _⟩ (fun E13 hJ15 => ?_)
        have hJ16 := hJ.trans (fun _ => PT_PR) hJ15
        refine v_aload_n C 0 dX9_mend_42 rfl rfl ?_
        refine v_iload_n C 1 dX9_mend_43 rfl rfl ?_
        obtain ⟨im20, hM20, hb20⟩ := hJ16.1
        have hq20 := hM20.b
        refine v_cVv C dX9_mend_44 lX9_219 mX9_take 68 (by omega) hM20.2.2.1 (by decide) rfl (t_X9_take l G ad hJ16 hgo hgx hgy hgl hbl p (show (0 : Int) ≤ Int32.toInt p ∧ Int32.toInt p ≤ 5 by omega)) ⟨by decide, by decide⟩ rfl (Nat.le_of_ble_eq_true rfl) ⟨Nat.zero_le _, Nat.zero_le _⟩ (fun E17 hT19 => ?_)
        obtain ⟨fo19, fx19, fy19, h8919, h9019, h9119, hT19, hJ18⟩ := hT19
        have hbm19 := hbl (p.toInt).toNat
        have hox19 : OXm fo19 fx19 ((fl (p.toInt).toNat).toInt).toNat := fun j hj hq => by have q := hT19 j hj; rw [q.1] at hq; rw [q.2.1]; exact hLX _ (by omega) hq
        refine v_aload_n C 0 dX9_mend_47 rfl rfl ?_
        refine v_iload_n C 2 dX9_mend_48 rfl rfl ?_
        refine v_iload_n C 3 dX9_mend_49 rfl rfl ?_
        obtain ⟨im26, hM26, hb26⟩ := hJ18.1
        have hq26 := hM26.b
        refine v_cVi C dX9_mend_50 lX9_295 mX9_isRight 68 (by omega) hM26.2.2.1 (by decide) rfl (t_X9_isRight l G ad hJ18.self h8919 h9019 (show ((fl (p.toInt).toNat).toInt).toNat ≤ 10 by omega) hox19 (show ((((fl (p.toInt).toNat).toInt).toNat : Nat) : Int) ≤ (fl (p.toInt).toNat).toInt ∧ (fl (p.toInt).toNat).toInt ≤ ((((fl (p.toInt).toNat).toInt).toNat : Nat) : Int) by omega) (show (0 : Int) ≤ (bd 41).1 ∧ (bd 41).2 ≤ 40000 by omega) x (show (0 : Int) ≤ Int32.toInt x ∧ Int32.toInt x ≤ 2147483647 by have := ti_any x; omega) y (by omega)) ⟨by decide, by decide⟩ rfl (Nat.le_of_ble_eq_true rfl) ⟨Nat.zero_le _, Nat.zero_le _⟩ (fun r21 E22 hp23 => ?_)
        obtain ⟨hp23, hJ24⟩ := hp23
        have hJ25 := hJ18.trans (fun _ => PT_PR) hJ24
        have e27 := (hJ24.2.1.1 89 (by unfold PR; omega)).trans h8919
        have e28 := (hJ24.2.1.1 90 (by unfold PR; omega)).trans h9019
        have e29 := (hJ24.2.1.1 91 (by unfold PR; omega)).trans h9119
        rcases hp23 with rfl | rfl
        · refine b_if_eq C 60 dX9_mend_53 (by decide) (show (0 : Int32).toInt = 0 by decide) (fun c30 => ?_) (fun c30 => absurd c30 (by decide))
          refine v_aload_n C 0 dX9_mend_60 rfl rfl ?_
          refine v_iload_n C 1 dX9_mend_61 rfl rfl ?_
          refine v_iload_n C 2 dX9_mend_62 rfl rfl ?_
          refine v_iload_n C 3 dX9_mend_63 rfl rfl ?_
          have hJ31 := ((hJ25.outB (k := 35) (by decide) (show (bd 35).1 ≤ 0 by omega) (show 8 ≤ (bd 35).2 by omega)).outB (k := 32) (by decide) (show (bd 32).1 ≤ (fl (p.toInt).toNat).toInt by omega) (show (fl (p.toInt).toNat).toInt ≤ (bd 32).2 by omega))
          obtain ⟨im36, hM36, hb36⟩ := hJ31.1
          have hq36 := hM36.b
          refine v_cVi C dX9_mend_64 lX9_299 mX9_mendsOne 68 (by omega) hM36.2.2.1 (by decide) rfl (t_X9_mendsOne l G ad hJ31 hgo hgx hgy hgl hbl hLX (show ((0 : Int) ≤ (bd 32).1 ∧ (bd 32).2 ≤ 10) ∧ ((bd 32).1 ≤ (0 : Int) ∧ 10 ≤ (bd 32).2) by omega) (show ((0 : Int) ≤ (bd 35).1 ∧ (bd 35).2 ≤ 8) ∧ ((bd 35).1 ≤ (0 : Int) ∧ 8 ≤ (bd 35).2) by omega) (show ((0 : Int) ≤ (bd 41).1 ∧ (bd 41).2 ≤ 40000) ∧ ((bd 41).1 ≤ (0 : Int) ∧ 40000 ≤ (bd 41).2) by omega) p (show (0 : Int) ≤ Int32.toInt p ∧ Int32.toInt p ≤ 5 by omega) x (show (0 : Int) ≤ Int32.toInt x ∧ Int32.toInt x ≤ 2147483647 by have := ti_any x; omega) y (by omega)) ⟨by decide, by decide⟩ rfl (Nat.le_of_ble_eq_true rfl) ⟨Nat.zero_le _, Nat.zero_le _⟩ (fun r32 E33 hp34 => ?_)
          obtain ⟨hp34, hJ35⟩ := hp34
          rcases hp34 with rfl | rfl
          · refine b_if_eq C 74 dX9_mend_67 (by decide) (show (0 : Int32).toInt = 0 by decide) (fun c37 => ?_) (fun c37 => absurd c37 (by decide))
            refine v_aload_n C 0 dX9_mend_74 rfl rfl ?_
            refine v_iload_n C 1 dX9_mend_75 rfl rfl ?_
            refine v_iload_n C 2 dX9_mend_76 rfl rfl ?_
            refine v_iload_n C 3 dX9_mend_77 rfl rfl ?_
            obtain ⟨im42, hM42, hb42⟩ := hJ35.1
            have hq42 := hM42.b
            refine v_cVi C dX9_mend_78 lX9_302 mX9_mendsTwo 68 (by omega) hM42.2.2.1 (by decide) rfl (t_X9_mendsTwo l G ad hJ35 hgo hgx hgy hgl hbl hLX (show ((0 : Int) ≤ (bd 32).1 ∧ (bd 32).2 ≤ 10) ∧ ((bd 32).1 ≤ (0 : Int) ∧ 10 ≤ (bd 32).2) by omega) (show ((0 : Int) ≤ (bd 35).1 ∧ (bd 35).2 ≤ 8) ∧ ((bd 35).1 ≤ (0 : Int) ∧ 8 ≤ (bd 35).2) by omega) (show ((0 : Int) ≤ (bd 41).1 ∧ (bd 41).2 ≤ 40000) ∧ ((bd 41).1 ≤ (0 : Int) ∧ 40000 ≤ (bd 41).2) by omega) p (show (0 : Int) ≤ Int32.toInt p ∧ Int32.toInt p ≤ 5 by omega) x (show (0 : Int) ≤ Int32.toInt x ∧ Int32.toInt x ≤ 2147483647 by have := ti_any x; omega) y (by omega)) ⟨by decide, by decide⟩ rfl (Nat.le_of_ble_eq_true rfl) ⟨Nat.zero_le _, Nat.zero_le _⟩ (fun r38 E39 hp40 => ?_)
            obtain ⟨hp40, hJ41⟩ := hp40
            rcases hp40 with rfl | rfl
            · refine b_if_eq C 88 dX9_mend_81 (by decide) (show (0 : Int32).toInt = 0 by decide) (fun c43 => ?_) (fun c43 => absurd c43 (by decide))
              refine v_bipush (v := (-6)) C dX9_mend_88 (by decide) ?_
              refine v_istore (lv' := [(0, .ref (ad 68)), (1, .int p), (2, .int x), (3, .int y), (4, .int u), (5, .int v), (6, .int (-6))]) C [1, 2, 3, 4, 5, 6, 0] dX9_mend_90 (by decide) rfl ?_
              refine v_iload C 6 dX9_mend_92 rfl ?_
              refine b_if_lt C 101 dX9_mend_94 (by decide) (show ((-6) : Int32).toInt = (-6) by decide) (fun c44 => ?_) (fun c44 => absurd c44 (by decide))
              refine v_iload C 6 dX9_mend_101 rfl ?_
              exact v_ret C dX9_mend_103 rfl rfl ⟨(ti_any (-6)), hJ41⟩
            · refine b_if_eq C 88 dX9_mend_81 (by decide) (show (1 : Int32).toInt = 1 by decide) (fun c45 => absurd c45 (by decide)) (fun c45 => ?_)
              refine v_iconst (v := 2) C dX9_mend_84 (by decide) ?_
              refine v_goto C 90 dX9_mend_85 (by decide) ?_
              refine v_istore (lv' := [(0, .ref (ad 68)), (1, .int p), (2, .int x), (3, .int y), (4, .int u), (5, .int v), (6, .int 2)]) C [1, 2, 3, 4, 5, 6, 0] dX9_mend_90 (by decide) rfl ?_
              refine v_iload C 6 dX9_mend_92 rfl ?_
              refine b_if_lt C 101 dX9_mend_94 (by decide) (show (2 : Int32).toInt = 2 by decide) (fun c46 => absurd c46 (by decide)) (fun c46 => ?_)
              refine v_aload_n C 0 dX9_mend_97 rfl rfl ?_
              obtain ⟨im51, hM51, hb51⟩ := hJ41.1
              have hq51 := hM51.b
              refine v_cVv C dX9_mend_98 lX9_305 mX9_keepMended 68 (by omega) hM51.2.2.1 (by decide) rfl (t_X9_keepMended l G ad hJ41 (show (0 : Int) ≤ (bd 32).1 ∧ (bd 32).2 ≤ 10 by omega) (show ((0 : Int) ≤ (bd 39).1 ∧ (bd 39).2 ≤ 10) ∧ ((bd 39).1 ≤ (0 : Int) ∧ 10 ≤ (bd 39).2) by omega) ) ⟨by decide, by decide⟩ rfl (Nat.le_of_ble_eq_true rfl) ⟨Nat.zero_le _, Nat.zero_le _⟩ (fun E48 hJ50 => ?_)
              refine v_iload C 6 dX9_mend_101 rfl ?_
              exact v_ret C dX9_mend_103 rfl rfl ⟨(ti_any 2), hJ50⟩
          · refine b_if_eq C 74 dX9_mend_67 (by decide) (show (1 : Int32).toInt = 1 by decide) (fun c52 => absurd c52 (by decide)) (fun c52 => ?_)
            refine v_iconst (v := 1) C dX9_mend_70 (by decide) ?_
            refine v_goto C 90 dX9_mend_71 (by decide) ?_
            refine v_istore (lv' := [(0, .ref (ad 68)), (1, .int p), (2, .int x), (3, .int y), (4, .int u), (5, .int v), (6, .int 1)]) C [1, 2, 3, 4, 5, 6, 0] dX9_mend_90 (by decide) rfl ?_
            refine v_iload C 6 dX9_mend_92 rfl ?_
            refine b_if_lt C 101 dX9_mend_94 (by decide) (show (1 : Int32).toInt = 1 by decide) (fun c53 => absurd c53 (by decide)) (fun c53 => ?_)
            refine v_aload_n C 0 dX9_mend_97 rfl rfl ?_
            obtain ⟨im58, hM58, hb58⟩ := hJ35.1
            have hq58 := hM58.b
            refine v_cVv C dX9_mend_98 lX9_305 mX9_keepMended 68 (by omega) hM58.2.2.1 (by decide) rfl (t_X9_keepMended l G ad hJ35 (show (0 : Int) ≤ (bd 32).1 ∧ (bd 32).2 ≤ 10 by omega) (show ((0 : Int) ≤ (bd 39).1 ∧ (bd 39).2 ≤ 10) ∧ ((bd 39).1 ≤ (0 : Int) ∧ 10 ≤ (bd 39).2) by omega) ) ⟨by decide, by decide⟩ rfl (Nat.le_of_ble_eq_true rfl) ⟨Nat.zero_le _, Nat.zero_le _⟩ (fun E55 hJ57 => ?_)
            refine v_iload C 6 dX9_mend_101 rfl ?_
            exact v_ret C dX9_mend_103 rfl rfl ⟨(ti_any 1), hJ57⟩
        · refine b_if_eq C 60 dX9_mend_53 (by decide) (show (1 : Int32).toInt = 1 by decide) (fun c59 => absurd c59 (by decide)) (fun c59 => ?_)
          refine v_iconst (v := 0) C dX9_mend_56 (by decide) ?_
          refine v_goto C 90 dX9_mend_57 (by decide) ?_
          refine v_istore (lv' := [(0, .ref (ad 68)), (1, .int p), (2, .int x), (3, .int y), (4, .int u), (5, .int v), (6, .int 0)]) C [1, 2, 3, 4, 5, 6, 0] dX9_mend_90 (by decide) rfl ?_
          refine v_iload C 6 dX9_mend_92 rfl ?_
          refine b_if_lt C 101 dX9_mend_94 (by decide) (show (0 : Int32).toInt = 0 by decide) (fun c60 => absurd c60 (by decide)) (fun c60 => ?_)
          refine v_aload_n C 0 dX9_mend_97 rfl rfl ?_
          have hJ61 := ((hJ25.outB (k := 35) (by decide) (show (bd 35).1 ≤ 0 by omega) (show 8 ≤ (bd 35).2 by omega)).outB (k := 32) (by decide) (show (bd 32).1 ≤ (fl (p.toInt).toNat).toInt by omega) (show (fl (p.toInt).toNat).toInt ≤ (bd 32).2 by omega))
          obtain ⟨im66, hM66, hb66⟩ := hJ61.1
          have hq66 := hM66.b
          refine v_cVv C dX9_mend_98 lX9_305 mX9_keepMended 68 (by omega) hM66.2.2.1 (by decide) rfl (t_X9_keepMended l G ad hJ61 (show (0 : Int) ≤ (bd 32).1 ∧ (bd 32).2 ≤ 10 by omega) (show ((0 : Int) ≤ (bd 39).1 ∧ (bd 39).2 ≤ 10) ∧ ((bd 39).1 ≤ (0 : Int) ∧ 10 ≤ (bd 39).2) by omega) ) ⟨by decide, by decide⟩ rfl (Nat.le_of_ble_eq_true rfl) ⟨Nat.zero_le _, Nat.zero_le _⟩ (fun E63 hJ65 => ?_)
          refine v_iload C 6 dX9_mend_101 rfl ?_
          exact v_ret C dX9_mend_103 rfl rfl ⟨(ti_any 0), hJ65⟩
      · refine b_if_ne C 31 dX9_mend_26 (by decide) (show (0 : Int32).toInt = 0 by decide) (fun c67 => absurd c67 (by decide)) (fun c67 => ?_)
        refine v_iconst (v := (-1)) C dX9_mend_29 (by decide) ?_
        exact v_ret C dX9_mend_30 rfl rfl ⟨(ti_any (-1)), hJ⟩
    · refine b_if_eq C 29 dX9_mend_13 (by decide) (show (0 : Int32).toInt = 0 by decide) (fun c68 => ?_) (fun c68 => absurd c68 (by decide))
      refine v_iconst (v := (-1)) C dX9_mend_29 (by decide) ?_
      exact v_ret C dX9_mend_30 rfl rfl ⟨(ti_any (-1)), hJ⟩
  · refine b_if_eq C 29 dX9_mend_4 (by decide) (show (0 : Int32).toInt = 0 by decide) (fun c69 => ?_) (fun c69 => absurd c69 (by decide))
    refine v_iconst (v := (-1)) C dX9_mend_29 (by decide) ?_
    exact v_ret C dX9_mend_30 rfl rfl ⟨(ti_any (-1)), hJ⟩

set_option maxRecDepth 20000 in
theorem t_X9_mended (l : Launch) (G : Gl) (ad : Nat → Nat) {n : Nat} {ic md : Nat → Int32} {bd : Nat → Int × Int} {E0 E : Nat → va_E} (hJ : JM G ad n ic md bd PR E0 E) (hf39 : (0 : Int) ≤ (bd 39).1 ∧ (bd 39).2 ≤ 10) (x : Int32) (y : Int32) : CtI l G yX9_mended cX9_mended 3 .int 1 22 (n) ad E [.ref (ad 68), .int x, .int y] (fun r E' => ((-2147483648 : Int) ≤ r.toInt ∧ r.toInt ≤ 2147483647) ∧ E = E') := by
  refine CtI.of (by decide) (Nat.le_of_ble_eq_true rfl) (fun X A C => ?_)
  refine v_sub (lv' := [(0, .ref (ad 68)), (1, .int x), (2, .int y)]) [0, 1, 2] rfl ?_
  have hn := hJ.hn
  have hz16 := hJ.2.2.2.2
  refine v_iload_n C 1 dX9_mended_0 rfl rfl ?_
  refine b_if_lt C 21 dX9_mended_1 (by decide) (rfl : Int32.toInt x = _) (fun c1 => ?_) (fun c1 => ?_)
  · refine v_ldc C dX9_mended_21 kX9_252 ?_
    exact v_ret C dX9_mended_23 rfl rfl ⟨(ti_any (-2000000000)), rfl⟩
  · refine v_iload_n C 1 dX9_mended_4 rfl rfl ?_
    refine v_aload_n C 0 dX9_mended_5 rfl rfl ?_
    obtain ⟨im2, hM2, hb2⟩ := hJ.1
    have hq2 := hM2.b
    refine v_geti (v := im2 39) C 68 dX9_mended_6 fX9_289 (by omega) hM2.2.2.1 rfl rfl ?_
    have him2_39r := hb2 39
    have him2_39 : (0 : Int) ≤ (im2 39).toInt ∧ (im2 39).toInt ≤ 10 := by have := hb2 39; omega
    refine b_icmp_ge C 21 dX9_mended_9 (by decide) (rfl : Int32.toInt x = _) (rfl : Int32.toInt (im2 39) = _) (fun c3 => ?_) (fun c3 => ?_)
    · refine v_ldc C dX9_mended_21 kX9_252 ?_
      exact v_ret C dX9_mended_23 rfl rfl ⟨(ti_any (-2000000000)), rfl⟩
    · refine v_iload_n C 2 dX9_mended_12 rfl rfl ?_
      refine v_iconst (v := 0) C dX9_mended_13 (by decide) ?_
      refine v_iconst (v := 2) C dX9_mended_14 (by decide) ?_
      refine v_cSp C dX9_mended_15 lX9_131 mX9_within (t_X9_within l G ad hJ y 0 2) ⟨by decide, by decide⟩ rfl (Nat.le_of_ble_eq_true rfl) ⟨Nat.zero_le _, Nat.zero_le _⟩ (fun r4 hp5 => ?_)
      have := (show (0 : Int32).toInt = 0 by decide)
      have := (show (2 : Int32).toInt = 2 by decide)
      rcases hp5 with ⟨rfl, hp5⟩ | ⟨rfl, hp5⟩
      · refine b_if_ne C 24 dX9_mended_18 (by decide) (show (1 : Int32).toInt = 1 by decide) (fun c6 => ?_) (fun c6 => absurd c6 (by decide))
        refine v_iload_n C 2 dX9_mended_24 rfl rfl ?_
        refine b_if_ne C 37 dX9_mended_25 (by decide) (rfl : Int32.toInt y = _) (fun c7 => ?_) (fun c7 => ?_)
        · refine v_iload_n C 2 dX9_mended_37 rfl rfl ?_
          refine v_iconst (v := 1) C dX9_mended_38 (by decide) ?_
          refine b_icmp_ne C 51 dX9_mended_39 (by decide) (rfl : Int32.toInt y = _) (show (1 : Int32).toInt = 1 by decide) (fun c8 => ?_) (fun c8 => ?_)
          · refine v_aload_n C 0 dX9_mended_51 rfl rfl ?_
            refine v_getr C 68 dX9_mended_52 fX9_109 (by omega) hM2.2.2.1 rfl rfl ?_
            refine v_iload_n C 1 dX9_mended_55 rfl rfl ?_
            obtain ⟨f10, hE10, hb10⟩ := hJ.2.1.getA (b := 96) (by omega) rfl
            refine v_ald (v := f10 (x.toInt).toNat) C 96 dX9_mended_56 (by omega) hE10 (ti_in (rfl : Int32.toInt x = _) (by omega) (by omega)) (by rw [ti_cl (rfl : Int32.toInt x = _)]) ?_
            refine v_top (fun x11 _ => ?_)
            exact v_ret C dX9_mended_57 rfl rfl ⟨(ti_any x11), rfl⟩
          · refine v_aload_n C 0 dX9_mended_42 rfl rfl ?_
            refine v_getr C 68 dX9_mended_43 fX9_106 (by omega) hM2.2.2.1 rfl rfl ?_
            refine v_iload_n C 1 dX9_mended_46 rfl rfl ?_
            obtain ⟨f13, hE13, hb13⟩ := hJ.2.1.getA (b := 95) (by omega) rfl
            refine v_ald (v := f13 (x.toInt).toNat) C 95 dX9_mended_47 (by omega) hE13 (ti_in (rfl : Int32.toInt x = _) (by omega) (by omega)) (by rw [ti_cl (rfl : Int32.toInt x = _)]) ?_
            refine v_top (fun x14 _ => ?_)
            refine v_goto C 57 dX9_mended_48 (by decide) ?_
            exact v_ret C dX9_mended_57 rfl rfl ⟨(ti_any x14), rfl⟩
        · refine v_aload_n C 0 dX9_mended_28 rfl rfl ?_
          refine v_getr C 68 dX9_mended_29 fX9_103 (by omega) hM2.2.2.1 rfl rfl ?_
          refine v_iload_n C 1 dX9_mended_32 rfl rfl ?_
          obtain ⟨f16, hE16, hb16⟩ := hJ.2.1.getA (b := 94) (by omega) rfl
          refine v_ald (v := f16 (x.toInt).toNat) C 94 dX9_mended_33 (by omega) hE16 (ti_in (rfl : Int32.toInt x = _) (by omega) (by omega)) (by rw [ti_cl (rfl : Int32.toInt x = _)]) ?_
          refine v_top (fun x17 _ => ?_)
          refine v_goto C 57 dX9_mended_34 (by decide) ?_
          exact v_ret C dX9_mended_57 rfl rfl ⟨(ti_any x17), rfl⟩
      · refine b_if_ne C 24 dX9_mended_18 (by decide) (show (0 : Int32).toInt = 0 by decide) (fun c18 => absurd c18 (by decide)) (fun c18 => ?_)
        refine v_ldc C dX9_mended_21 kX9_252 ?_
        exact v_ret C dX9_mended_23 rfl rfl ⟨(ti_any (-2000000000)), rfl⟩

set_option maxRecDepth 20000 in
theorem t_X9_meetings (l : Launch) (G : Gl) (ad : Nat → Nat) {n : Nat} {ic md : Nat → Int32} {bd : Nat → Int × Int} {E0 E : Nat → va_E} (hJ : JM G ad n ic md bd PR E0 E) (x : Int32) (y : Int32) (z : Int32) (u : Int32) (v : Int32) : CtI l G yX9_meetings cX9_meetings 9 .int 5 122 (n) ad E [.ref (ad 68), .int x, .int y, .int z, .int u, .int v] (fun r E' => ((-2147483648 : Int) ≤ r.toInt ∧ r.toInt ≤ 2147483647) ∧ JM G ad n ic md bd PR E0 E') := by
  refine CtI.of (by decide) (Nat.le_of_ble_eq_true rfl) (fun X A C => ?_)
  refine v_sub (lv' := [(0, .ref (ad 68)), (1, .int x), (2, .int y), (3, .int z), (4, .int u), (5, .int v)]) [0, 1, 2, 3, 4, 5] rfl ?_
  have hn := hJ.hn
  have hz16 := hJ.2.2.2.2
  refine v_aload_n C 0 dX9_meetings_0 rfl rfl ?_
  refine v_iload_n C 1 dX9_meetings_1 rfl rfl ?_
  obtain ⟨im3, hM3, hb3⟩ := hJ.1
  have hq3 := hM3.b
  refine v_cVp C dX9_meetings_2 lX9_162 mX9_isZone 68 (by omega) hM3.2.2.1 (by decide) rfl (t_X9_isZone l G ad hJ x) ⟨by decide, by decide⟩ rfl (Nat.le_of_ble_eq_true rfl) ⟨Nat.zero_le _, Nat.zero_le _⟩ (fun r1 hp2 => ?_)
  rcases hp2 with ⟨rfl, hp2⟩ | ⟨rfl, hp2⟩
  · refine b_if_eq C 76 dX9_meetings_5 (by decide) (show (1 : Int32).toInt = 1 by decide) (fun c4 => absurd c4 (by decide)) (fun c4 => ?_)
    refine v_iload_n C 2 dX9_meetings_8 rfl rfl ?_
    refine b_if_lt C 76 dX9_meetings_9 (by decide) (rfl : Int32.toInt y = _) (fun c5 => ?_) (fun c5 => ?_)
    · refine v_iconst (v := (-1)) C dX9_meetings_76 (by decide) ?_
      exact v_ret C dX9_meetings_77 rfl rfl ⟨(ti_any (-1)), hJ⟩
    · refine v_iload_n C 2 dX9_meetings_12 rfl rfl ?_
      refine v_bipush (v := 10) C dX9_meetings_13 (by decide) ?_
      refine v_idiv C dX9_meetings_15 (by decide) ?_
      have := ti_any y
      refine v_top (fun x6 ex6 => ?_)
      have hx6 : x6.toInt = (y.toInt / 10) := by rw [ex6]; exact ti_div (rfl : Int32.toInt y = _) (show (10 : Int32).toInt = 10 by decide) (by omega) (by omega)
      refine v_sipush (v := 1440) C dX9_meetings_16 (by decide) ?_
      refine b_icmp_ge C 76 dX9_meetings_19 (by decide) hx6 (show (1440 : Int32).toInt = 1440 by decide) (fun c7 => ?_) (fun c7 => ?_)
      · refine v_iconst (v := (-1)) C dX9_meetings_76 (by decide) ?_
        exact v_ret C dX9_meetings_77 rfl rfl ⟨(ti_any (-1)), hJ⟩
      · refine v_iload_n C 2 dX9_meetings_22 rfl rfl ?_
        refine v_bipush (v := 10) C dX9_meetings_23 (by decide) ?_
        refine v_irem C dX9_meetings_25 (by decide) ?_
        have := ti_any y
        refine v_top (fun x8 ex8 => ?_)
        have hx8 : x8.toInt = (y.toInt % 10) := by rw [ex8]; exact ti_rem (rfl : Int32.toInt y = _) (show (10 : Int32).toInt = 10 by decide) (by omega) (by omega)
        refine v_aload_n C 0 dX9_meetings_26 rfl rfl ?_
        refine v_geti (v := im3 4) C 68 dX9_meetings_27 fX9_23 (by omega) hM3.2.2.1 rfl rfl ?_
        refine b_icmp_ge C 76 dX9_meetings_30 (by decide) hx8 (rfl : Int32.toInt (im3 4) = _) (fun c9 => ?_) (fun c9 => ?_)
        · refine v_iconst (v := (-1)) C dX9_meetings_76 (by decide) ?_
          exact v_ret C dX9_meetings_77 rfl rfl ⟨(ti_any (-1)), hJ⟩
        · refine v_aload_n C 0 dX9_meetings_33 rfl rfl ?_
          refine v_iload_n C 3 dX9_meetings_34 rfl rfl ?_
          refine v_cVi C dX9_meetings_35 lX9_141 mX9_isDay 68 (by omega) hM3.2.2.1 (by decide) rfl (d_isDay l G _ ad _ hn hM3 z) ⟨by decide, by decide⟩ rfl (Nat.le_of_ble_eq_true rfl) ⟨Nat.zero_le _, Nat.zero_le _⟩ (fun r10 E11 hq12 => ?_)
          obtain ⟨hq12, hq12m⟩ := hq12
          have hJ13 := hJ.mr hb3 (by unfold PR; omega) (by unfold PR; omega) hq12m
          have hcyr10 := cal_y hM3.2.1
          rcases hq12 with ⟨rfl, hq12⟩ | ⟨rfl, hq12⟩
          · refine b_if_eq C 76 dX9_meetings_38 (by decide) (show (1 : Int32).toInt = 1 by decide) (fun c14 => absurd c14 (by decide)) (fun c14 => ?_)
            refine v_aload_n C 0 dX9_meetings_41 rfl rfl ?_
            refine v_iload C 4 dX9_meetings_42 rfl ?_
            obtain ⟨im19, hM19, hb19⟩ := hJ13.1
            have hq19 := hM19.b
            refine v_cVi C dX9_meetings_44 lX9_141 mX9_isDay 68 (by omega) hM19.2.2.1 (by decide) rfl (d_isDay l G _ ad _ hn hM19 u) ⟨by decide, by decide⟩ rfl (Nat.le_of_ble_eq_true rfl) ⟨Nat.zero_le _, Nat.zero_le _⟩ (fun r15 E16 hq17 => ?_)
            obtain ⟨hq17, hq17m⟩ := hq17
            have hJ18 := hJ13.mr hb19 (by unfold PR; omega) (by unfold PR; omega) hq17m
            have hcyr15 := cal_y hM19.2.1
            rcases hq17 with ⟨rfl, hq17⟩ | ⟨rfl, hq17⟩
            · refine b_if_eq C 76 dX9_meetings_47 (by decide) (show (1 : Int32).toInt = 1 by decide) (fun c20 => absurd c20 (by decide)) (fun c20 => ?_)
              refine v_iload_n C 3 dX9_meetings_50 rfl rfl ?_
              refine v_iload C 4 dX9_meetings_51 rfl ?_
              refine b_icmp_gt C 76 dX9_meetings_53 (by decide) (rfl : Int32.toInt z = _) (rfl : Int32.toInt u = _) (fun c21 => ?_) (fun c21 => ?_)
              · refine v_iconst (v := (-1)) C dX9_meetings_76 (by decide) ?_
                exact v_ret C dX9_meetings_77 rfl rfl ⟨(ti_any (-1)), hJ18⟩
              · refine v_iload C 4 dX9_meetings_56 rfl ?_
                refine v_iload_n C 3 dX9_meetings_58 rfl rfl ?_
                refine v_isub C dX9_meetings_59 ?_
                refine v_top (fun x22 ex22 => ?_)
                have hx22 : x22.toInt = (u.toInt - z.toInt) := by rw [ex22]; exact ti_sub (rfl : Int32.toInt u = _) (rfl : Int32.toInt z = _) (by omega) (by omega)
                refine v_sipush (v := 4000) C dX9_meetings_60 (by decide) ?_
                refine b_icmp_gt C 76 dX9_meetings_63 (by decide) hx22 (show (4000 : Int32).toInt = 4000 by decide) (fun c23 => ?_) (fun c23 => ?_)
                · refine v_iconst (v := (-1)) C dX9_meetings_76 (by decide) ?_
                  exact v_ret C dX9_meetings_77 rfl rfl ⟨(ti_any (-1)), hJ18⟩
                · refine v_iload C 5 dX9_meetings_66 rfl ?_
                  refine v_iconst (v := 0) C dX9_meetings_68 (by decide) ?_
                  refine v_iconst (v := 2) C dX9_meetings_69 (by decide) ?_
                  refine v_cSp C dX9_meetings_70 lX9_131 mX9_within (t_X9_within l G ad hJ18 v 0 2) ⟨by decide, by decide⟩ rfl (Nat.le_of_ble_eq_true rfl) ⟨Nat.zero_le _, Nat.zero_le _⟩ (fun r24 hp25 => ?_)
                  have := (show (0 : Int32).toInt = 0 by decide)
                  have := (show (2 : Int32).toInt = 2 by decide)
                  rcases hp25 with ⟨rfl, hp25⟩ | ⟨rfl, hp25⟩
                  · refine b_if_ne C 78 dX9_meetings_73 (by decide) (show (1 : Int32).toInt = 1 by decide) (fun c26 => ?_) (fun c26 => absurd c26 (by decide))
                    refine v_iconst (v := 0) C dX9_meetings_78 (by decide) ?_
                    refine v_istore (lv' := [(0, .ref (ad 68)), (1, .int x), (2, .int y), (3, .int z), (4, .int u), (5, .int v), (6, .int 0)]) C [1, 2, 3, 4, 5, 6, 0] dX9_meetings_79 (by decide) rfl ?_
                    refine v_iload_n C 3 dX9_meetings_81 rfl rfl ?_
                    refine v_istore (lv' := [(0, .ref (ad 68)), (1, .int x), (2, .int y), (3, .int z), (4, .int u), (5, .int v), (6, .int 0), (7, .int z)]) C [1, 2, 3, 4, 5, 6, 7, 0] dX9_meetings_82 (by decide) rfl ?_
                    have LP27 : ∀ (t : Nat) (E30 : Nat → va_E) (y28 : Int32) (y29 : Int32), JM G ad n ic md bd PR E0 E30 → ((0 : Int) ≤ y29.toInt ∧ y29.toInt ≤ 48100) → 48101 - y29.toInt < (t : Int) → V X G A 9 (QI X G A (n) ad (fun r E' => ((-2147483648 : Int) ≤ r.toInt ∧ r.toInt ≤ 2147483647) ∧ JM G ad n ic md bd PR E0 E')) n ad 0 0 E30 84 [(0, .ref (ad 68)), (1, .int x), (2, .int y), (4, .int u), (5, .int v), (6, .int y28), (7, .int y29)] [] := by
                      intro t34
                      induction t34 with
                      | zero => intro E30 y28 y29 hJ31 hy29 hm33; exfalso; omega
                      | succ t34 ih32 =>
                        intro E30 y28 y29 hJ31 hy29 hm33
                        refine v_iload C 6 dX9_meetings_84 rfl ?_
                        refine v_iload C 3 dX9_meetings_86 rfl ?_
                        refine b_icmp_gt C 164 dX9_meetings_88 (by decide) (rfl : Int32.toInt y29 = _) (rfl : Int32.toInt u = _) (fun c35 => ?_) (fun c35 => ?_)
                        · refine v_iload C 5 dX9_meetings_164 rfl ?_
                          exact v_ret C dX9_meetings_166 rfl rfl ⟨(ti_any y28), hJ31⟩
                        · refine v_aload_n C 0 dX9_meetings_91 rfl rfl ?_
                          refine v_iload C 6 dX9_meetings_92 rfl ?_
                          obtain ⟨im38, hM38, hb38⟩ := hJ31.1
                          have hq38 := hM38.b
                          refine v_cVp C dX9_meetings_94 lX9_149 mX9_weekday 68 (by omega) hM38.2.2.1 (by decide) rfl (t_X9_weekday l G ad hJ31 y29) ⟨by decide, by decide⟩ rfl (Nat.le_of_ble_eq_true rfl) ⟨Nat.zero_le _, Nat.zero_le _⟩ (fun r36 hp37 => ?_)
                          refine v_iload_n C 2 dX9_meetings_97 rfl rfl ?_
                          refine v_bipush (v := 10) C dX9_meetings_98 (by decide) ?_
                          refine v_irem C dX9_meetings_100 (by decide) ?_
                          have := ti_any y
                          refine v_top (fun x39 ex39 => ?_)
                          have hx39 : x39.toInt = (y.toInt % 10) := by rw [ex39]; exact ti_rem (rfl : Int32.toInt y = _) (show (10 : Int32).toInt = 10 by decide) (by omega) (by omega)
                          refine b_icmp_ne C 158 dX9_meetings_101 (by decide) (rfl : Int32.toInt r36 = _) hx39 (fun c40 => ?_) (fun c40 => ?_)
                          · obtain ⟨x41, ex41⟩ : ∃ y : Int32, y = y29 + 1 := ⟨_, rfl⟩
                            have hx41 : x41.toInt = (y29.toInt + 1) := by rw [ex41]; exact ti_add (rfl : Int32.toInt y29 = _) (show (1 : Int32).toInt = 1 by decide) (by omega) (by omega)
                            refine v_iinc (v := x41) (lv' := [(0, .ref (ad 68)), (1, .int x), (2, .int y), (4, .int u), (5, .int v), (6, .int y28), (7, .int x41)]) C 6 [1, 2, 3, 4, 5, 6, 0] dX9_meetings_158 rfl (ex41.symm) (by decide) rfl ?_
                            refine v_goto C 84 dX9_meetings_161 (by decide) ?_
                            exact ih32 _ y28 x41 hJ31 (by have := ti_any y28; have := hx41; omega) (by have := ti_any y28; have := hx41; omega)
                          · refine v_aload_n C 0 dX9_meetings_104 rfl rfl ?_
                            refine v_iload_n C 1 dX9_meetings_105 rfl rfl ?_
                            refine v_sipush (v := 1440) C dX9_meetings_106 (by decide) ?_
                            refine v_iload C 6 dX9_meetings_109 rfl ?_
                            refine v_imul C dX9_meetings_111 ?_
                            refine v_top (fun x42 ex42 => ?_)
                            have hx42 : x42.toInt = (1440 * y29.toInt) := by rw [ex42]; exact ti_mul (show (1440 : Int32).toInt = 1440 by decide) (rfl : Int32.toInt y29 = _) (by omega) (by omega)
                            refine v_iload_n C 2 dX9_meetings_112 rfl rfl ?_
                            refine v_bipush (v := 10) C dX9_meetings_113 (by decide) ?_
                            refine v_idiv C dX9_meetings_115 (by decide) ?_
                            have := ti_any y
                            refine v_top (fun x43 ex43 => ?_)
                            have hx43 : x43.toInt = (y.toInt / 10) := by rw [ex43]; exact ti_div (rfl : Int32.toInt y = _) (show (10 : Int32).toInt = 10 by decide) (by omega) (by omega)
                            refine v_iadd C dX9_meetings_116 ?_
                            refine v_top (fun x44 ex44 => ?_)
                            have hx44 : x44.toInt = ((1440 * y29.toInt) + (y.toInt / 10)) := by rw [ex44]; exact ti_add hx42 hx43 (by omega) (by omega)
                            refine v_iconst (v := (-1)) C dX9_meetings_117 (by decide) ?_
                            refine v_cVi C dX9_meetings_118 lX9_191 mX9_momentOf 68 (by omega) hM38.2.2.1 (by decide) rfl (t_X9_momentOf l G ad hJ31 x (show (0 : Int) ≤ Int32.toInt x ∧ Int32.toInt x ≤ 4 by omega) x44 (-1)) ⟨by decide, by decide⟩ rfl (Nat.le_of_ble_eq_true rfl) ⟨Nat.zero_le _, Nat.zero_le _⟩ (fun r45 E46 hp47 => ?_)
                            obtain ⟨hp47, hJ48⟩ := hp47
                            refine v_istore (lv' := [(0, .ref (ad 68)), (1, .int x), (2, .int y), (4, .int u), (5, .int v), (6, .int y28), (7, .int y29), (8, .int r45)]) C [1, 2, 3, 4, 5, 6, 7, 0] dX9_meetings_121 (by decide) rfl ?_
                            refine v_iload C 5 dX9_meetings_123 rfl ?_
                            refine v_iload C 4 dX9_meetings_125 rfl ?_
                            refine v_iconst (v := 2) C dX9_meetings_127 (by decide) ?_
                            refine b_icmp_eq C 150 dX9_meetings_128 (by decide) (rfl : Int32.toInt v = _) (show (2 : Int32).toInt = 2 by decide) (fun c49 => ?_) (fun c49 => ?_)
                            · refine v_iconst (v := 1) C dX9_meetings_150 (by decide) ?_
                              refine v_goto C 155 dX9_meetings_151 (by decide) ?_
                              refine v_iadd C dX9_meetings_155 ?_
                              refine v_top (fun x50 _ => ?_)
                              refine v_istore (lv' := [(0, .ref (ad 68)), (1, .int x), (2, .int y), (4, .int u), (5, .int v), (6, .int x50), (7, .int y29), (8, .int r45)]) C [1, 2, 3, 4, 5, 0, 6, 7] dX9_meetings_156 (by decide) rfl ?_
                              obtain ⟨x51, ex51⟩ : ∃ y : Int32, y = y29 + 1 := ⟨_, rfl⟩
                              have hx51 : x51.toInt = (y29.toInt + 1) := by rw [ex51]; exact ti_add (rfl : Int32.toInt y29 = _) (show (1 : Int32).toInt = 1 by decide) (by omega) (by omega)
                              refine v_iinc (v := x51) (lv' := [(0, .ref (ad 68)), (1, .int x), (2, .int y), (4, .int u), (5, .int v), (6, .int x50), (7, .int x51), (8, .int r45)]) C 6 [1, 2, 3, 4, 5, 6, 0, 7] dX9_meetings_158 rfl (ex51.symm) (by decide) rfl ?_
                              refine v_goto C 84 dX9_meetings_161 (by decide) ?_
                              refine v_sub (lv' := [(0, .ref (ad 68)), (1, .int x), (2, .int y), (4, .int u), (5, .int v), (6, .int x50), (7, .int x51)]) [0, 1, 2, 3, 4, 5, 6] rfl ?_
                              exact ih32 _ x50 x51 hJ48 (by have := ti_any x50; have := hx51; omega) (by have := ti_any x50; have := hx51; omega)
                            · refine v_iload C 4 dX9_meetings_131 rfl ?_
                              refine b_if_ne C 144 dX9_meetings_133 (by decide) (rfl : Int32.toInt v = _) (fun c52 => ?_) (fun c52 => ?_)
                              · refine v_iload C 7 dX9_meetings_144 rfl ?_
                                refine v_iconst (v := 1) C dX9_meetings_146 (by decide) ?_
                                refine b_icmp_le C 154 dX9_meetings_147 (by decide) (rfl : Int32.toInt r45 = _) (show (1 : Int32).toInt = 1 by decide) (fun c53 => ?_) (fun c53 => ?_)
                                · refine v_iconst (v := 0) C dX9_meetings_154 (by decide) ?_
                                  refine v_iadd C dX9_meetings_155 ?_
                                  refine v_top (fun x54 _ => ?_)
                                  refine v_istore (lv' := [(0, .ref (ad 68)), (1, .int x), (2, .int y), (4, .int u), (5, .int v), (6, .int x54), (7, .int y29), (8, .int r45)]) C [1, 2, 3, 4, 5, 0, 6, 7] dX9_meetings_156 (by decide) rfl ?_
                                  obtain ⟨x55, ex55⟩ : ∃ y : Int32, y = y29 + 1 := ⟨_, rfl⟩
                                  have hx55 : x55.toInt = (y29.toInt + 1) := by rw [ex55]; exact ti_add (rfl : Int32.toInt y29 = _) (show (1 : Int32).toInt = 1 by decide) (by omega) (by omega)
                                  refine v_iinc (v := x55) (lv' := [(0, .ref (ad 68)), (1, .int x), (2, .int y), (4, .int u), (5, .int v), (6, .int x54), (7, .int x55), (8, .int r45)]) C 6 [1, 2, 3, 4, 5, 6, 0, 7] dX9_meetings_158 rfl (ex55.symm) (by decide) rfl ?_
                                  refine v_goto C 84 dX9_meetings_161 (by decide) ?_
                                  refine v_sub (lv' := [(0, .ref (ad 68)), (1, .int x), (2, .int y), (4, .int u), (5, .int v), (6, .int x54), (7, .int x55)]) [0, 1, 2, 3, 4, 5, 6] rfl ?_
                                  exact ih32 _ x54 x55 hJ48 (by have := ti_any x54; have := hx55; omega) (by have := ti_any x54; have := hx55; omega)
                                · refine v_iconst (v := 1) C dX9_meetings_150 (by decide) ?_
                                  refine v_goto C 155 dX9_meetings_151 (by decide) ?_
                                  refine v_iadd C dX9_meetings_155 ?_
                                  refine v_top (fun x56 _ => ?_)
                                  refine v_istore (lv' := [(0, .ref (ad 68)), (1, .int x), (2, .int y), (4, .int u), (5, .int v), (6, .int x56), (7, .int y29), (8, .int r45)]) C [1, 2, 3, 4, 5, 0, 6, 7] dX9_meetings_156 (by decide) rfl ?_
                                  obtain ⟨x57, ex57⟩ : ∃ y : Int32, y = y29 + 1 := ⟨_, rfl⟩
                                  have hx57 : x57.toInt = (y29.toInt + 1) := by rw [ex57]; exact ti_add (rfl : Int32.toInt y29 = _) (show (1 : Int32).toInt = 1 by decide) (by omega) (by omega)
                                  refine v_iinc (v := x57) (lv' := [(0, .ref (ad 68)), (1, .int x), (2, .int y), (4, .int u), (5, .int v), (6, .int x56), (7, .int x57), (8, .int r45)]) C 6 [1, 2, 3, 4, 5, 6, 0, 7] dX9_meetings_158 rfl (ex57.symm) (by decide) rfl ?_
                                  refine v_goto C 84 dX9_meetings_161 (by decide) ?_
                                  refine v_sub (lv' := [(0, .ref (ad 68)), (1, .int x), (2, .int y), (4, .int u), (5, .int v), (6, .int x56), (7, .int x57)]) [0, 1, 2, 3, 4, 5, 6] rfl ?_
                                  exact ih32 _ x56 x57 hJ48 (by have := ti_any x56; have := hx57; omega) (by have := ti_any x56; have := hx57; omega)
                              · refine v_iload C 7 dX9_meetings_136 rfl ?_
                                refine b_if_ne C 154 dX9_meetings_138 (by decide) (rfl : Int32.toInt r45 = _) (fun c58 => ?_) (fun c58 => ?_)
                                · refine v_iconst (v := 0) C dX9_meetings_154 (by decide) ?_
                                  refine v_iadd C dX9_meetings_155 ?_
                                  refine v_top (fun x59 _ => ?_)
                                  refine v_istore (lv' := [(0, .ref (ad 68)), (1, .int x), (2, .int y), (4, .int u), (5, .int v), (6, .int x59), (7, .int y29), (8, .int r45)]) C [1, 2, 3, 4, 5, 0, 6, 7] dX9_meetings_156 (by decide) rfl ?_
                                  obtain ⟨x60, ex60⟩ : ∃ y : Int32, y = y29 + 1 := ⟨_, rfl⟩
                                  have hx60 : x60.toInt = (y29.toInt + 1) := by rw [ex60]; exact ti_add (rfl : Int32.toInt y29 = _) (show (1 : Int32).toInt = 1 by decide) (by omega) (by omega)
                                  refine v_iinc (v := x60) (lv' := [(0, .ref (ad 68)), (1, .int x), (2, .int y), (4, .int u), (5, .int v), (6, .int x59), (7, .int x60), (8, .int r45)]) C 6 [1, 2, 3, 4, 5, 6, 0, 7] dX9_meetings_158 rfl (ex60.symm) (by decide) rfl ?_
                                  refine v_goto C 84 dX9_meetings_161 (by decide) ?_
                                  refine v_sub (lv' := [(0, .ref (ad 68)), (1, .int x), (2, .int y), (4, .int u), (5, .int v), (6, .int x59), (7, .int x60)]) [0, 1, 2, 3, 4, 5, 6] rfl ?_
                                  exact ih32 _ x59 x60 hJ48 (by have := ti_any x59; have := hx60; omega) (by have := ti_any x59; have := hx60; omega)
                                · refine v_goto C 150 dX9_meetings_141 (by decide) ?_
                                  refine v_iconst (v := 1) C dX9_meetings_150 (by decide) ?_
                                  refine v_goto C 155 dX9_meetings_151 (by decide) ?_
                                  refine v_iadd C dX9_meetings_155 ?_
                                  refine v_top (fun x61 _ => ?_)
                                  refine v_istore (lv' := [(0, .ref (ad 68)), (1, .int x), (2, .int y), (4, .int u), (5, .int v), (6, .int x61), (7, .int y29), (8, .int r45)]) C [1, 2, 3, 4, 5, 0, 6, 7] dX9_meetings_156 (by decide) rfl ?_
                                  obtain ⟨x62, ex62⟩ : ∃ y : Int32, y = y29 + 1 := ⟨_, rfl⟩
                                  have hx62 : x62.toInt = (y29.toInt + 1) := by rw [ex62]; exact ti_add (rfl : Int32.toInt y29 = _) (show (1 : Int32).toInt = 1 by decide) (by omega) (by omega)
                                  refine v_iinc (v := x62) (lv' := [(0, .ref (ad 68)), (1, .int x), (2, .int y), (4, .int u), (5, .int v), (6, .int x61), (7, .int x62), (8, .int r45)]) C 6 [1, 2, 3, 4, 5, 6, 0, 7] dX9_meetings_158 rfl (ex62.symm) (by decide) rfl ?_
                                  refine v_goto C 84 dX9_meetings_161 (by decide) ?_
                                  refine v_sub (lv' := [(0, .ref (ad 68)), (1, .int x), (2, .int y), (4, .int u), (5, .int v), (6, .int x61), (7, .int x62)]) [0, 1, 2, 3, 4, 5, 6] rfl ?_
                                  exact ih32 _ x61 x62 hJ48 (by have := ti_any x61; have := hx62; omega) (by have := ti_any x61; have := hx62; omega)
                    refine v_sub (lv' := [(0, .ref (ad 68)), (1, .int x), (2, .int y), (4, .int u), (5, .int v), (6, .int 0), (7, .int z)]) [0, 1, 2, 4, 5, 6, 7] rfl ?_
                    exact LP27 100000 _ 0 z hJ18 (by have := (show (0 : Int32).toInt = 0 by decide); omega) (by have := (show (0 : Int32).toInt = 0 by decide); omega)
                  · refine b_if_ne C 78 dX9_meetings_73 (by decide) (show (0 : Int32).toInt = 0 by decide) (fun c63 => absurd c63 (by decide)) (fun c63 => ?_)
                    refine v_iconst (v := (-1)) C dX9_meetings_76 (by decide) ?_
                    exact v_ret C dX9_meetings_77 rfl rfl ⟨(ti_any (-1)), hJ18⟩
            · refine b_if_eq C 76 dX9_meetings_47 (by decide) (show (0 : Int32).toInt = 0 by decide) (fun c64 => ?_) (fun c64 => absurd c64 (by decide))
              refine v_iconst (v := (-1)) C dX9_meetings_76 (by decide) ?_
              exact v_ret C dX9_meetings_77 rfl rfl ⟨(ti_any (-1)), hJ18⟩
          · refine b_if_eq C 76 dX9_meetings_38 (by decide) (show (0 : Int32).toInt = 0 by decide) (fun c65 => ?_) (fun c65 => absurd c65 (by decide))
            refine v_iconst (v := (-1)) C dX9_meetings_76 (by decide) ?_
            exact v_ret C dX9_meetings_77 rfl rfl ⟨(ti_any (-1)), hJ13⟩
  · refine b_if_eq C 76 dX9_meetings_5 (by decide) (show (0 : Int32).toInt = 0 by decide) (fun c66 => ?_) (fun c66 => absurd c66 (by decide))
    refine v_iconst (v := (-1)) C dX9_meetings_76 (by decide) ?_
    exact v_ret C dX9_meetings_77 rfl rfl ⟨(ti_any (-1)), hJ⟩

set_option maxRecDepth 20000 in
theorem t_X9_count (l : Launch) (G : Gl) (ad : Nat → Nat) {n : Nat} {ic md : Nat → Int32} {bd : Nat → Int × Int} {E0 E : Nat → va_E} (hJ : JM G ad n ic md bd PR E0 E) (x : Int32) : CtI l G yX9_count cX9_count 4 .int 3 64 (n) ad E [.ref (ad 68), .int x] (fun r E' => ((-2147483648 : Int) ≤ r.toInt ∧ r.toInt ≤ 2147483647) ∧ JM G ad n ic md bd PR E0 E') := by
  refine CtI.of (by decide) (Nat.le_of_ble_eq_true rfl) (fun X A C => ?_)
  refine v_sub (lv' := [(0, .ref (ad 68)), (1, .int x)]) [0, 1] rfl ?_
  have hn := hJ.hn
  have hz16 := hJ.2.2.2.2
  refine v_iconst (v := 0) C dX9_count_0 (by decide) ?_
  refine v_istore_n (lv' := [(0, .ref (ad 68)), (1, .int x), (2, .int 0)]) C [1, 2, 0] dX9_count_1 rfl (by decide) rfl ?_
  refine v_iconst (v := 0) C dX9_count_2 (by decide) ?_
  refine v_istore_n (lv' := [(0, .ref (ad 68)), (1, .int x), (2, .int 0), (3, .int 0)]) C [1, 2, 3, 0] dX9_count_3 rfl (by decide) rfl ?_
  have LP1 : ∀ (t : Nat) (E4 : Nat → va_E) (y2 : Int32) (y3 : Int32), JM G ad n ic md bd PR E0 E4 → ((0 : Int) ≤ y3.toInt ∧ y3.toInt ≤ 6) → 7 - y3.toInt < (t : Int) → V X G A 4 (QI X G A (n) ad (fun r E' => ((-2147483648 : Int) ≤ r.toInt ∧ r.toInt ≤ 2147483647) ∧ JM G ad n ic md bd PR E0 E')) n ad 0 0 E4 4 [(0, .ref (ad 68)), (1, .int x), (2, .int y2), (3, .int y3)] [] := by
    intro t8
    induction t8 with
    | zero => intro E4 y2 y3 hJ5 hy3 hm7; exfalso; omega
    | succ t8 ih6 =>
      intro E4 y2 y3 hJ5 hy3 hm7
      refine v_iload_n C 3 dX9_count_4 rfl rfl ?_
      refine v_bipush (v := 6) C dX9_count_5 (by decide) ?_
      refine b_icmp_ge C 25 dX9_count_7 (by decide) (rfl : Int32.toInt y3 = _) (show (6 : Int32).toInt = 6 by decide) (fun c9 => ?_) (fun c9 => ?_)
      · refine v_iload_n C 1 dX9_count_25 rfl rfl ?_
        refine b_if_ne C 36 dX9_count_26 (by decide) (rfl : Int32.toInt x = _) (fun c10 => ?_) (fun c10 => ?_)
        · refine v_iload_n C 1 dX9_count_36 rfl rfl ?_
          refine v_iconst (v := 1) C dX9_count_37 (by decide) ?_
          refine b_icmp_ne C 45 dX9_count_38 (by decide) (rfl : Int32.toInt x = _) (show (1 : Int32).toInt = 1 by decide) (fun c11 => ?_) (fun c11 => ?_)
          · refine v_iload_n C 1 dX9_count_45 rfl rfl ?_
            refine v_iconst (v := 2) C dX9_count_46 (by decide) ?_
            refine b_icmp_ne C 57 dX9_count_47 (by decide) (rfl : Int32.toInt x = _) (show (2 : Int32).toInt = 2 by decide) (fun c12 => ?_) (fun c12 => ?_)
            · refine v_iload_n C 1 dX9_count_57 rfl rfl ?_
              refine v_iconst (v := 3) C dX9_count_58 (by decide) ?_
              refine b_icmp_ne C 69 dX9_count_59 (by decide) (rfl : Int32.toInt x = _) (show (3 : Int32).toInt = 3 by decide) (fun c13 => ?_) (fun c13 => ?_)
              · refine v_iconst (v := (-1)) C dX9_count_69 (by decide) ?_
                exact v_ret C dX9_count_70 rfl rfl ⟨(ti_any (-1)), hJ5⟩
              · refine v_aload_n C 0 dX9_count_62 rfl rfl ?_
                obtain ⟨im18, hM18, hb18⟩ := hJ5.1
                have hq18 := hM18.b
                refine v_cVi C dX9_count_63 lX9_127 mX9_allDays 68 (by omega) hM18.2.2.1 (by decide) rfl (d_allDays l G _ ad _ hn hM18 ) ⟨by decide, by decide⟩ rfl (Nat.le_of_ble_eq_true rfl) ⟨Nat.zero_le _, Nat.zero_le _⟩ (fun r14 E15 hq16 => ?_)
                obtain ⟨hq16, hq16m⟩ := hq16
                have hJ17 := hJ5.mr hb18 (by unfold PR; omega) (by unfold PR; omega) hq16m
                have hcyr14 := cal_y hM18.2.1
                have hr14 : (0 : Int) ≤ r14.toInt ∧ r14.toInt ≤ 48100 := by rw [hq16]; exact hcyr14
                refine v_goto C 70 dX9_count_66 (by decide) ?_
                exact v_ret C dX9_count_70 rfl rfl ⟨(ti_any r14), hJ17⟩
            · refine v_aload_n C 0 dX9_count_50 rfl rfl ?_
              obtain ⟨im19, hM19, hb19⟩ := hJ5.1
              have hq19 := hM19.b
              refine v_geti (v := im19 17) C 68 dX9_count_51 fX9_165 (by omega) hM19.2.2.1 rfl rfl ?_
              refine v_goto C 70 dX9_count_54 (by decide) ?_
              exact v_ret C dX9_count_70 rfl rfl ⟨(ti_any (im19 17)), hJ5⟩
          · refine v_iload_n C 2 dX9_count_41 rfl rfl ?_
            refine v_goto C 70 dX9_count_42 (by decide) ?_
            exact v_ret C dX9_count_70 rfl rfl ⟨(ti_any y2), hJ5⟩
        · refine v_aload_n C 0 dX9_count_29 rfl rfl ?_
          obtain ⟨im20, hM20, hb20⟩ := hJ5.1
          have hq20 := hM20.b
          refine v_geti (v := im20 16) C 68 dX9_count_30 fX9_135 (by omega) hM20.2.2.1 rfl rfl ?_
          have him20_16r := hb20 16
          have him20_16 : (0 : Int) ≤ (im20 16).toInt ∧ (im20 16).toInt ≤ 5 := by have := hb20 16; omega
          refine v_goto C 70 dX9_count_33 (by decide) ?_
          exact v_ret C dX9_count_70 rfl rfl ⟨(ti_any (im20 16)), hJ5⟩
      · refine v_iload_n C 2 dX9_count_10 rfl rfl ?_
        refine v_aload_n C 0 dX9_count_11 rfl rfl ?_
        obtain ⟨im21, hM21, hb21⟩ := hJ5.1
        have hq21 := hM21.b
        refine v_getr C 68 dX9_count_12 fX9_85 (by omega) hM21.2.2.1 rfl rfl ?_
        refine v_iload_n C 3 dX9_count_15 rfl rfl ?_
        obtain ⟨f23, hE23, hb23⟩ := hJ5.2.1.getA (b := 88) (by omega) rfl
        refine v_ald (v := f23 (y3.toInt).toNat) C 88 dX9_count_16 (by omega) hE23 (ti_in (rfl : Int32.toInt y3 = _) (by omega) (by omega)) (by rw [ti_cl (rfl : Int32.toInt y3 = _)]) ?_
        refine v_top (fun x24 ex24 => ?_)
        have hx24 : (0 : Int) ≤ x24.toInt ∧ x24.toInt ≤ 10 := by rw [ex24]; exact hb23 _
        refine v_iadd C dX9_count_17 ?_
        refine v_top (fun x25 _ => ?_)
        refine v_istore_n (lv' := [(0, .ref (ad 68)), (1, .int x), (2, .int x25), (3, .int y3)]) C [1, 2, 0, 3] dX9_count_18 rfl (by decide) rfl ?_
        obtain ⟨x26, ex26⟩ : ∃ y : Int32, y = y3 + 1 := ⟨_, rfl⟩
        have hx26 : x26.toInt = (y3.toInt + 1) := by rw [ex26]; exact ti_add (rfl : Int32.toInt y3 = _) (show (1 : Int32).toInt = 1 by decide) (by omega) (by omega)
        refine v_iinc (v := x26) (lv' := [(0, .ref (ad 68)), (1, .int x), (2, .int x25), (3, .int x26)]) C 3 [1, 2, 3, 0] dX9_count_19 rfl (ex26.symm) (by decide) rfl ?_
        refine v_goto C 4 dX9_count_22 (by decide) ?_
        exact ih6 _ x25 x26 hJ5 (by have := ti_any x25; have := hx26; omega) (by have := ti_any x25; have := hx26; omega)
  exact LP1 100000 _ 0 0 hJ (by have := (show (0 : Int32).toInt = 0 by decide); omega) (by have := (show (0 : Int32).toInt = 0 by decide); omega)

