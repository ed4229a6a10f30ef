set_option maxRecDepth 20000 in
theorem y_isProgram (l : Launch) (G : Gl) (n : Nat) (ad : Nat → Nat) (E : Nat → va_E) (p : Int32) : CtI l G yX9_isProgram cX9_isProgram 1 .boolean 1 22 (n) ad E [.int p] (fun r E' => ((r = 1 ∧ (0 ≤ p.toInt ∧ p.toInt < 6)) ∨ (r = 0 ∧ ¬ (0 ≤ p.toInt ∧ p.toInt < 6))) ∧ E = E') := by
  refine CtI.of (by decide) (Nat.le_of_ble_eq_true rfl) (fun X A C => ?_)
  refine v_sub (lv' := [(0, .int p)]) [0] rfl ?_
  refine v_iload_n C 0 dX9_isProgram_0 rfl rfl ?_
  refine v_iconst (v := 0) C dX9_isProgram_1 (by decide) ?_
  refine v_iconst (v := 5) C dX9_isProgram_2 (by decide) ?_
  refine v_cSp C dX9_isProgram_3 lX9_131 mX9_within (d_within l G _ ad _ p 0 5) ⟨by decide, by decide⟩ rfl (Nat.le_of_ble_eq_true rfl) ⟨Nat.zero_le _, Nat.zero_le _⟩ (fun r1 hp2 => ?_)
  rw [(show (0 : Int32).toInt = 0 by decide), (show (5 : Int32).toInt = 5 by decide)] at hp2
  rcases hp2 with ⟨rfl, hp2⟩ | ⟨rfl, hp2⟩
  · exact v_ret C dX9_isProgram_6 rfl rfl ⟨Or.inl ⟨rfl, by omega⟩, rfl⟩
  · exact v_ret C dX9_isProgram_6 rfl rfl ⟨Or.inr ⟨rfl, by omega⟩, rfl⟩

set_option maxRecDepth 20000 in
theorem y_isMoment (l : Launch) (G : Gl) (n : Nat) (ad : Nat → Nat) (E : Nat → va_E) (m : Int32) : CtI l G yX9_isMoment cX9_isMoment 1 .boolean 1 22 (n) ad E [.int m] (fun r E' => ((r = 1 ∧ (0 ≤ m.toInt ∧ m.toInt < 60000000)) ∨ (r = 0 ∧ ¬ (0 ≤ m.toInt ∧ m.toInt < 60000000))) ∧ E = E') := by
  refine CtI.of (by decide) (Nat.le_of_ble_eq_true rfl) (fun X A C => ?_)
  refine v_sub (lv' := [(0, .int m)]) [0] rfl ?_
  refine v_iload_n C 0 dX9_isMoment_0 rfl rfl ?_
  refine v_iconst (v := 0) C dX9_isMoment_1 (by decide) ?_
  refine v_ldc C dX9_isMoment_2 kX9_178 ?_
  refine v_cSp C dX9_isMoment_4 lX9_131 mX9_within (d_within l G _ ad _ m 0 59999999) ⟨by decide, by decide⟩ rfl (Nat.le_of_ble_eq_true rfl) ⟨Nat.zero_le _, Nat.zero_le _⟩ (fun r1 hp2 => ?_)
  rw [(show (0 : Int32).toInt = 0 by decide), (show (59999999 : Int32).toInt = 59999999 by decide)] at hp2
  rcases hp2 with ⟨rfl, hp2⟩ | ⟨rfl, hp2⟩
  · exact v_ret C dX9_isMoment_7 rfl rfl ⟨Or.inl ⟨rfl, by omega⟩, rfl⟩
  · exact v_ret C dX9_isMoment_7 rfl rfl ⟨Or.inr ⟨rfl, by omega⟩, rfl⟩

set_option maxRecDepth 20000 in
theorem y_isLaw (l : Launch) (G : Gl) (n : Nat) (ad : Nat → Nat) (E : Nat → va_E) (hn : 98 ≤ n) {im : Nat → Int32} (h68 : E 68 = ob 9 (rX9 ad) im) {k : Nat} (hk : (im 16).toInt = (k : Int)) (x : Int32) (v : Int32) : CtI l G yX9_isLaw cX9_isLaw 3 .boolean 1 22 (n) ad E [.ref (ad 68), .int x, .int v] (fun r E' => ((r = 1 ∧ (okLW (k : Int) x.toInt v.toInt)) ∨ (r = 0 ∧ ¬ (okLW (k : Int) x.toInt v.toInt))) ∧ E = E') := by
  refine CtI.of (by decide) (Nat.le_of_ble_eq_true rfl) (fun X A C => ?_)
  refine v_sub (lv' := [(0, .ref (ad 68)), (1, .int x), (2, .int v)]) [0, 1, 2] rfl ?_
  refine v_iload_n C 1 dX9_isLaw_0 rfl rfl ?_
  refine b_if_ge C 6 dX9_isLaw_1 (by decide) (rfl : Int32.toInt x = _) (fun c1 => ?_) (fun c1 => ?_)
  · refine v_iload_n C 1 dX9_isLaw_6 rfl rfl ?_
    refine v_bipush (v := 10) C dX9_isLaw_7 (by decide) ?_
    refine v_irem C dX9_isLaw_9 (by decide) ?_
    refine v_top (fun x2 ex2 => ?_)
    have hx2 : x2.toInt = (x.toInt % 10) := by rw [ex2]; exact ti_rem (rfl : Int32.toInt x = _) (show (10 : Int32).toInt = 10 by decide) (by omega) (by omega)
    have q3v : Int32.toInt x2 = (x.toInt % 10) := hx2
    rcases (show (x.toInt % 10) = 0 ∨ (x.toInt % 10) = 1 ∨ (x.toInt % 10) = 2 ∨ (x.toInt % 10) = 3 ∨ (x.toInt % 10) = 4 ∨ ((x.toInt % 10) < 0 ∨ 4 < (x.toInt % 10)) by omega) with q3 | q3 | q3 | q3 | q3 | q3
    · refine v_tableIn (off := 34) C 44 dX9_isLaw_10 (by omega) (by omega) (by rw [q3v, q3]; rfl) (by decide) ?_
      refine v_iload_n C 1 dX9_isLaw_44 rfl rfl ?_
      refine v_bipush (v := 10) C dX9_isLaw_45 (by decide) ?_
      refine v_idiv C dX9_isLaw_47 (by decide) ?_
      refine v_top (fun x4 ex4 => ?_)
      have hx4 : x4.toInt = (x.toInt / 10) := by rw [ex4]; exact ti_div (rfl : Int32.toInt x = _) (show (10 : Int32).toInt = 10 by decide) (by omega) (by omega)
      refine b_if_ne C 55 dX9_isLaw_48 (by decide) hx4 (fun c5 => ?_) (fun c5 => ?_)
      · refine v_iconst (v := 0) C dX9_isLaw_55 (by decide) ?_
        exact v_ret C dX9_isLaw_56 rfl rfl ⟨Or.inr ⟨rfl, by unfold okLW; omega⟩, rfl⟩
      · refine v_iconst (v := 1) C dX9_isLaw_51 (by decide) ?_
        refine v_goto C 56 dX9_isLaw_52 (by decide) ?_
        exact v_ret C dX9_isLaw_56 rfl rfl ⟨Or.inl ⟨rfl, by unfold okLW; omega⟩, rfl⟩
    · refine v_tableIn (off := 47) C 57 dX9_isLaw_10 (by omega) (by omega) (by rw [q3v, q3]; rfl) (by decide) ?_
      refine v_aload_n C 0 dX9_isLaw_57 rfl rfl ?_
      refine v_iload_n C 1 dX9_isLaw_58 rfl rfl ?_
      refine v_bipush (v := 10) C dX9_isLaw_59 (by decide) ?_
      refine v_idiv C dX9_isLaw_61 (by decide) ?_
      refine v_top (fun x6 ex6 => ?_)
      have hx6 : x6.toInt = (x.toInt / 10) := by rw [ex6]; exact ti_div (rfl : Int32.toInt x = _) (show (10 : Int32).toInt = 10 by decide) (by omega) (by omega)
      refine v_cVp C dX9_isLaw_62 lX9_162 mX9_isZone 68 (by omega) h68 (by decide) rfl (e_isZone l G n ad _ hn h68 x6) ⟨by decide, by decide⟩ rfl (Nat.le_of_ble_eq_true rfl) ⟨Nat.zero_le _, Nat.zero_le _⟩ (fun r7 hp8 => ?_)
      rw [hk, hx6] at hp8
      rcases hp8 with ⟨rfl, hp8⟩ | ⟨rfl, hp8⟩
      · refine b_if_eq C 83 dX9_isLaw_65 (by decide) (show (1 : Int32).toInt = 1 by decide) (fun c9 => absurd c9 (by decide)) (fun c9 => ?_)
        refine v_iload_n C 2 dX9_isLaw_68 rfl rfl ?_
        refine v_iconst (v := 0) C dX9_isLaw_69 (by decide) ?_
        refine v_sipush (v := 1439) C dX9_isLaw_70 (by decide) ?_
        refine v_cSp C dX9_isLaw_73 lX9_131 mX9_within (d_within l G _ ad _ v 0 1439) ⟨by decide, by decide⟩ rfl (Nat.le_of_ble_eq_true rfl) ⟨Nat.zero_le _, Nat.zero_le _⟩ (fun r10 hp11 => ?_)
        rw [(show (0 : Int32).toInt = 0 by decide), (show (1439 : Int32).toInt = 1439 by decide)] at hp11
        rcases hp11 with ⟨rfl, hp11⟩ | ⟨rfl, hp11⟩
        · refine b_if_eq C 83 dX9_isLaw_76 (by decide) (show (1 : Int32).toInt = 1 by decide) (fun c12 => absurd c12 (by decide)) (fun c12 => ?_)
          refine v_iconst (v := 1) C dX9_isLaw_79 (by decide) ?_
          refine v_goto C 84 dX9_isLaw_80 (by decide) ?_
          exact v_ret C dX9_isLaw_84 rfl rfl ⟨Or.inl ⟨rfl, by unfold okLW; omega⟩, rfl⟩
        · refine b_if_eq C 83 dX9_isLaw_76 (by decide) (show (0 : Int32).toInt = 0 by decide) (fun c13 => ?_) (fun c13 => absurd c13 (by decide))
          refine v_iconst (v := 0) C dX9_isLaw_83 (by decide) ?_
          exact v_ret C dX9_isLaw_84 rfl rfl ⟨Or.inr ⟨rfl, by unfold okLW; omega⟩, rfl⟩
      · refine b_if_eq C 83 dX9_isLaw_65 (by decide) (show (0 : Int32).toInt = 0 by decide) (fun c14 => ?_) (fun c14 => absurd c14 (by decide))
        refine v_iconst (v := 0) C dX9_isLaw_83 (by decide) ?_
        exact v_ret C dX9_isLaw_84 rfl rfl ⟨Or.inr ⟨rfl, by unfold okLW; omega⟩, rfl⟩
    · refine v_tableIn (off := 75) C 85 dX9_isLaw_10 (by omega) (by omega) (by rw [q3v, q3]; rfl) (by decide) ?_
      refine v_aload_n C 0 dX9_isLaw_85 rfl rfl ?_
      refine v_iload_n C 1 dX9_isLaw_86 rfl rfl ?_
      refine v_bipush (v := 10) C dX9_isLaw_87 (by decide) ?_
      refine v_idiv C dX9_isLaw_89 (by decide) ?_
      refine v_top (fun x15 ex15 => ?_)
      have hx15 : x15.toInt = (x.toInt / 10) := by rw [ex15]; exact ti_div (rfl : Int32.toInt x = _) (show (10 : Int32).toInt = 10 by decide) (by omega) (by omega)
      refine v_cVp C dX9_isLaw_90 lX9_162 mX9_isZone 68 (by omega) h68 (by decide) rfl (e_isZone l G n ad _ hn h68 x15) ⟨by decide, by decide⟩ rfl (Nat.le_of_ble_eq_true rfl) ⟨Nat.zero_le _, Nat.zero_le _⟩ (fun r16 hp17 => ?_)
      rw [hk, hx15] at hp17
      rcases hp17 with ⟨rfl, hp17⟩ | ⟨rfl, hp17⟩
      · refine b_if_eq C 104 dX9_isLaw_93 (by decide) (show (1 : Int32).toInt = 1 by decide) (fun c18 => absurd c18 (by decide)) (fun c18 => ?_)
        refine v_iload_n C 2 dX9_isLaw_96 rfl rfl ?_
        refine b_if_ne C 104 dX9_isLaw_97 (by decide) (rfl : Int32.toInt v = _) (fun c19 => ?_) (fun c19 => ?_)
        · refine v_iconst (v := 0) C dX9_isLaw_104 (by decide) ?_
          exact v_ret C dX9_isLaw_105 rfl rfl ⟨Or.inr ⟨rfl, by unfold okLW; omega⟩, rfl⟩
        · refine v_iconst (v := 1) C dX9_isLaw_100 (by decide) ?_
          refine v_goto C 105 dX9_isLaw_101 (by decide) ?_
          exact v_ret C dX9_isLaw_105 rfl rfl ⟨Or.inl ⟨rfl, by unfold okLW; omega⟩, rfl⟩
      · refine b_if_eq C 104 dX9_isLaw_93 (by decide) (show (0 : Int32).toInt = 0 by decide) (fun c20 => ?_) (fun c20 => absurd c20 (by decide))
        refine v_iconst (v := 0) C dX9_isLaw_104 (by decide) ?_
        exact v_ret C dX9_isLaw_105 rfl rfl ⟨Or.inr ⟨rfl, by unfold okLW; omega⟩, rfl⟩
    · refine v_tableIn (off := 34) C 44 dX9_isLaw_10 (by omega) (by omega) (by rw [q3v, q3]; rfl) (by decide) ?_
      refine v_iload_n C 1 dX9_isLaw_44 rfl rfl ?_
      refine v_bipush (v := 10) C dX9_isLaw_45 (by decide) ?_
      refine v_idiv C dX9_isLaw_47 (by decide) ?_
      refine v_top (fun x21 ex21 => ?_)
      have hx21 : x21.toInt = (x.toInt / 10) := by rw [ex21]; exact ti_div (rfl : Int32.toInt x = _) (show (10 : Int32).toInt = 10 by decide) (by omega) (by omega)
      refine b_if_ne C 55 dX9_isLaw_48 (by decide) hx21 (fun c22 => ?_) (fun c22 => ?_)
      · refine v_iconst (v := 0) C dX9_isLaw_55 (by decide) ?_
        exact v_ret C dX9_isLaw_56 rfl rfl ⟨Or.inr ⟨rfl, by unfold okLW; omega⟩, rfl⟩
      · refine v_iconst (v := 1) C dX9_isLaw_51 (by decide) ?_
        refine v_goto C 56 dX9_isLaw_52 (by decide) ?_
        exact v_ret C dX9_isLaw_56 rfl rfl ⟨Or.inl ⟨rfl, by unfold okLW; omega⟩, rfl⟩
    · refine v_tableIn (off := 96) C 106 dX9_isLaw_10 (by omega) (by omega) (by rw [q3v, q3]; rfl) (by decide) ?_
      refine v_iload_n C 1 dX9_isLaw_106 rfl rfl ?_
      refine v_bipush (v := 10) C dX9_isLaw_107 (by decide) ?_
      refine v_idiv C dX9_isLaw_109 (by decide) ?_
      refine v_top (fun x23 ex23 => ?_)
      have hx23 : x23.toInt = (x.toInt / 10) := by rw [ex23]; exact ti_div (rfl : Int32.toInt x = _) (show (10 : Int32).toInt = 10 by decide) (by omega) (by omega)
      refine b_if_ne C 121 dX9_isLaw_110 (by decide) hx23 (fun c24 => ?_) (fun c24 => ?_)
      · refine v_iconst (v := 0) C dX9_isLaw_121 (by decide) ?_
        exact v_ret C dX9_isLaw_122 rfl rfl ⟨Or.inr ⟨rfl, by unfold okLW; omega⟩, rfl⟩
      · refine v_iload_n C 2 dX9_isLaw_113 rfl rfl ?_
        refine b_if_ne C 121 dX9_isLaw_114 (by decide) (rfl : Int32.toInt v = _) (fun c25 => ?_) (fun c25 => ?_)
        · refine v_iconst (v := 0) C dX9_isLaw_121 (by decide) ?_
          exact v_ret C dX9_isLaw_122 rfl rfl ⟨Or.inr ⟨rfl, by unfold okLW; omega⟩, rfl⟩
        · refine v_iconst (v := 1) C dX9_isLaw_117 (by decide) ?_
          refine v_goto C 122 dX9_isLaw_118 (by decide) ?_
          exact v_ret C dX9_isLaw_122 rfl rfl ⟨Or.inl ⟨rfl, by unfold okLW; omega⟩, rfl⟩
    · refine v_tableOut C 123 dX9_isLaw_10 (by omega) (by decide) ?_
      refine v_iconst (v := 0) C dX9_isLaw_123 (by decide) ?_
      exact v_ret C dX9_isLaw_124 rfl rfl ⟨Or.inr ⟨rfl, by unfold okLW; omega⟩, rfl⟩
  · refine v_iconst (v := 0) C dX9_isLaw_4 (by decide) ?_
    exact v_ret C dX9_isLaw_5 rfl rfl ⟨Or.inr ⟨rfl, by unfold okLW; omega⟩, rfl⟩

set_option maxRecDepth 20000 in
theorem y_take (l : Launch) (G : Gl) (n : Nat) (ad : Nat → Nat) (E : Nat → va_E) (hn : 98 ≤ n) {im : Nat → Int32} (h68 : E 68 = ob 9 (rX9 ad) im) {gop gx gy fl o0 x0 y0 : Nat → Int32} (h85 : E 85 = aI G 60 gop) (h86 : E 86 = aI G 60 gx) (h87 : E 87 = aI G 60 gy) (h88 : E 88 = aI G 6 fl) (h89 : E 89 = aI G 10 o0) (h90 : E 90 = aI G 10 x0) (h91 : E 91 = aI G 10 y0) (p : Int32) {pp N : Nat} (hp : p.toInt = (pp : Int)) (hpp : pp < 6) (hN : (fl pp).toInt = (N : Int)) (hN10 : N ≤ 10) : CtV l G yX9_take cX9_take 3 0 0 (n) ad E [.ref (ad 68), .int p] (fun E' => ∃ fo fx fy : Nat → Int32, E' 68 = ob 9 (rX9 ad) (va_up im 32 (fl pp)) ∧ E' 89 = aI G 10 fo ∧ E' 90 = aI G 10 fx ∧ E' 91 = aI G 10 fy ∧ (∀ j, j < N → fo j = gop (10 * pp + j) ∧ fx j = gx (10 * pp + j) ∧ fy j = gy (10 * pp + j)) ∧ ∀ j, j ≠ 68 → j ≠ 89 → j ≠ 90 → j ≠ 91 → E' j = E j) := by
  refine CtV.of (by decide) (Nat.le_of_ble_eq_true rfl) (fun X A C => ?_)
  refine v_sub (lv' := [(0, .ref (ad 68)), (1, .int p)]) [0, 1] rfl ?_
  refine v_aload_n C 0 dX9_take_0 rfl rfl ?_
  refine v_aload_n C 0 dX9_take_1 rfl rfl ?_
  refine v_getr C 68 dX9_take_2 fX9_85 (by omega) h68 rfl rfl ?_
  refine v_iload_n C 1 dX9_take_5 rfl rfl ?_
  refine v_ald (v := fl pp) C 88 dX9_take_6 (by omega) h88 (ti_in hp (by omega) (by omega)) (by rw [ti_cl hp, show Int.toNat (pp : Int) = pp by omega]) ?_
  refine v_puti C 68 dX9_take_7 fX9_200 (by omega) h68 rfl rfl rfl rfl (fun E1 hE1_68 oE1 => ?_)
  have hE1_85 := (oE1 85 (by decide)).trans h85
  have hE1_86 := (oE1 86 (by decide)).trans h86
  have hE1_87 := (oE1 87 (by decide)).trans h87
  have hE1_88 := (oE1 88 (by decide)).trans h88
  have hE1_89 := (oE1 89 (by decide)).trans h89
  have hE1_90 := (oE1 90 (by decide)).trans h90
  have hE1_91 := (oE1 91 (by decide)).trans h91
  refine v_iconst (v := 0) C dX9_take_10 (by decide) ?_
  refine v_istore_n (lv' := [(0, .ref (ad 68)), (1, .int p), (2, .int 0)]) C [1, 2, 0] dX9_take_11 rfl (by decide) rfl ?_
  have LP2 : ∀ (t : Nat) (i1 : Nat) (y3 : Int32) (E4 : Nat → va_E) (o1 : Nat → Int32) (x1 : Nat → Int32) (y1 : Nat → Int32), (y3.toInt = (i1 : Int)) → (E4 89 = aI G 10 o1) → (E4 90 = aI G 10 x1) → (E4 91 = aI G 10 y1) → (∀ j, j ≠ 89 → j ≠ 90 → j ≠ 91 → E4 j = E1 j) → (i1 ≤ N) → (∀ j, j < i1 → o1 j = gop (10 * pp + j) ∧ x1 j = gx (10 * pp + j) ∧ y1 j = gy (10 * pp + j)) → (N : Int) - (i1 : Int) < (t : Int) → V X G A 3 (QV X G A (n) ad (fun E' => ∃ fo fx fy : Nat → Int32, E' 68 = ob 9 (rX9 ad) (va_up im 32 (fl pp)) ∧ E' 89 = aI G 10 fo ∧ E' 90 = aI G 10 fx ∧ E' 91 = aI G 10 fy ∧ (∀ j, j < N → fo j = gop (10 * pp + j) ∧ fx j = gx (10 * pp + j) ∧ fy j = gy (10 * pp + j)) ∧ ∀ j, j ≠ 68 → j ≠ 89 → j ≠ 90 → j ≠ 91 → E' j = E j)) (n) ad 0 0 E4 12 [(0, .ref (ad 68)), (1, .int p), (2, .int y3)] [] := by
    intro t7
    induction t7 with
    | zero => intro i1 y3 E4 o1 x1 y1 hy3 hE4_89 hE4_90 hE4_91 hfr5 hq6 hag hm9; exfalso; omega
    | succ t7 ih8 =>
      intro i1 y3 E4 o1 x1 y1 hy3 hE4_89 hE4_90 hE4_91 hfr5 hq6 hag hm9
      have hE4_68 := (hfr5 68 (by decide) (by decide) (by decide)).trans hE1_68
      have hE4_85 := (hfr5 85 (by decide) (by decide) (by decide)).trans hE1_85
      have hE4_86 := (hfr5 86 (by decide) (by decide) (by decide)).trans hE1_86
      have hE4_87 := (hfr5 87 (by decide) (by decide) (by decide)).trans hE1_87
      have hE4_88 := (hfr5 88 (by decide) (by decide) (by decide)).trans hE1_88
      refine v_iload_n C 2 dX9_take_12 rfl rfl ?_
      refine v_aload_n C 0 dX9_take_13 rfl rfl ?_
      refine v_geti (v := fl pp) C 68 dX9_take_14 fX9_200 (by omega) hE4_68 rfl rfl ?_
      refine b_icmp_ge C 77 dX9_take_17 (by decide) hy3 hN (fun c10 => ?_) (fun c10 => ?_)
      · exact v_vret C dX9_take_77 rfl ⟨o1, x1, y1, hE4_68, hE4_89, hE4_90, hE4_91, (fun j hj => hag j (by omega)), fun j g1 g2 g3 g4 => ((hfr5 j (by omega) (by omega) (by omega)).trans (oE1 j (by omega)))⟩
      · refine v_aload_n C 0 dX9_take_20 rfl rfl ?_
        refine v_getr C 68 dX9_take_21 fX9_88 (by omega) hE4_68 rfl rfl ?_
        refine v_iload_n C 2 dX9_take_24 rfl rfl ?_
        refine v_aload_n C 0 dX9_take_25 rfl rfl ?_
        refine v_getr C 68 dX9_take_26 fX9_76 (by omega) hE4_68 rfl rfl ?_
        refine v_bipush (v := 10) C dX9_take_29 (by decide) ?_
        refine v_iload_n C 1 dX9_take_31 rfl rfl ?_
        refine v_imul C dX9_take_32 ?_
        refine v_top (fun x11 ex11 => ?_)
        have hx11 : x11.toInt = (10 * (pp : Int)) := by rw [ex11]; exact ti_mul (show (10 : Int32).toInt = 10 by decide) hp (by omega) (by omega)
        refine v_iload_n C 2 dX9_take_33 rfl rfl ?_
        refine v_iadd C dX9_take_34 ?_
        refine v_top (fun x12 ex12 => ?_)
        have hx12 : x12.toInt = ((10 * (pp : Int)) + (i1 : Int)) := by rw [ex12]; exact ti_add hx11 hy3 (by omega) (by omega)
        refine v_ald (v := gop (10 * pp + i1)) C 85 dX9_take_35 (by omega) hE4_85 (ti_in hx12 (by omega) (by omega)) (by rw [ti_cl hx12, show Int.toNat ((10 * (pp : Int)) + (i1 : Int)) = 10 * pp + i1 by omega]) ?_
        refine v_ast C 89 dX9_take_36 (by omega) hE4_89 (ti_in hy3 (by omega) (by omega)) (fun E13 hE13_89 oE13 => ?_)
        rw [ti_cl hy3, show Int.toNat (i1 : Int) = i1 by omega] at hE13_89
        have hE13_68 := (oE13 68 (by decide)).trans hE4_68
        have hE13_85 := (oE13 85 (by decide)).trans hE4_85
        have hE13_86 := (oE13 86 (by decide)).trans hE4_86
        have hE13_87 := (oE13 87 (by decide)).trans hE4_87
        have hE13_88 := (oE13 88 (by decide)).trans hE4_88
        have hE13_90 := (oE13 90 (by decide)).trans hE4_90
        have hE13_91 := (oE13 91 (by decide)).trans hE4_91
        refine v_aload_n C 0 dX9_take_37 rfl rfl ?_
        refine v_getr C 68 dX9_take_38 fX9_91 (by omega) hE13_68 rfl rfl ?_
        refine v_iload_n C 2 dX9_take_41 rfl rfl ?_
        refine v_aload_n C 0 dX9_take_42 rfl rfl ?_
        refine v_getr C 68 dX9_take_43 fX9_79 (by omega) hE13_68 rfl rfl ?_
        refine v_bipush (v := 10) C dX9_take_46 (by decide) ?_
        refine v_iload_n C 1 dX9_take_48 rfl rfl ?_
        refine v_imul C dX9_take_49 ?_
        refine v_top (fun x14 ex14 => ?_)
        have hx14 : x14.toInt = (10 * (pp : Int)) := by rw [ex14]; exact ti_mul (show (10 : Int32).toInt = 10 by decide) hp (by omega) (by omega)
        refine v_iload_n C 2 dX9_take_50 rfl rfl ?_
        refine v_iadd C dX9_take_51 ?_
        refine v_top (fun x15 ex15 => ?_)
        have hx15 : x15.toInt = ((10 * (pp : Int)) + (i1 : Int)) := by rw [ex15]; exact ti_add hx14 hy3 (by omega) (by omega)
        refine v_ald (v := gx (10 * pp + i1)) C 86 dX9_take_52 (by omega) hE13_86 (ti_in hx15 (by omega) (by omega)) (by rw [ti_cl hx15, show Int.toNat ((10 * (pp : Int)) + (i1 : Int)) = 10 * pp + i1 by omega]) ?_
        refine v_ast C 90 dX9_take_53 (by omega) hE13_90 (ti_in hy3 (by omega) (by omega)) (fun E16 hE16_90 oE16 => ?_)
        rw [ti_cl hy3, show Int.toNat (i1 : Int) = i1 by omega] at hE16_90
        have hE16_68 := (oE16 68 (by decide)).trans hE13_68
        have hE16_85 := (oE16 85 (by decide)).trans hE13_85
        have hE16_86 := (oE16 86 (by decide)).trans hE13_86
        have hE16_87 := (oE16 87 (by decide)).trans hE13_87
        have hE16_88 := (oE16 88 (by decide)).trans hE13_88
        have hE16_89 := (oE16 89 (by decide)).trans hE13_89
        have hE16_91 := (oE16 91 (by decide)).trans hE13_91
        refine v_aload_n C 0 dX9_take_54 rfl rfl ?_
        refine v_getr C 68 dX9_take_55 fX9_94 (by omega) hE16_68 rfl rfl ?_
        refine v_iload_n C 2 dX9_take_58 rfl rfl ?_
        refine v_aload_n C 0 dX9_take_59 rfl rfl ?_
        refine v_getr C 68 dX9_take_60 fX9_82 (by omega) hE16_68 rfl rfl ?_
        refine v_bipush (v := 10) C dX9_take_63 (by decide) ?_
        refine v_iload_n C 1 dX9_take_65 rfl rfl ?_
        refine v_imul C dX9_take_66 ?_
        refine v_top (fun x17 ex17 => ?_)
        have hx17 : x17.toInt = (10 * (pp : Int)) := by rw [ex17]; exact ti_mul (show (10 : Int32).toInt = 10 by decide) hp (by omega) (by omega)
        refine v_iload_n C 2 dX9_take_67 rfl rfl ?_
        refine v_iadd C dX9_take_68 ?_
        refine v_top (fun x18 ex18 => ?_)
        have hx18 : x18.toInt = ((10 * (pp : Int)) + (i1 : Int)) := by rw [ex18]; exact ti_add hx17 hy3 (by omega) (by omega)
        refine v_ald (v := gy (10 * pp + i1)) C 87 dX9_take_69 (by omega) hE16_87 (ti_in hx18 (by omega) (by omega)) (by rw [ti_cl hx18, show Int.toNat ((10 * (pp : Int)) + (i1 : Int)) = 10 * pp + i1 by omega]) ?_
        refine v_ast C 91 dX9_take_70 (by omega) hE16_91 (ti_in hy3 (by omega) (by omega)) (fun E19 hE19_91 oE19 => ?_)
        rw [ti_cl hy3, show Int.toNat (i1 : Int) = i1 by omega] at hE19_91
        have hE19_68 := (oE19 68 (by decide)).trans hE16_68
        have hE19_85 := (oE19 85 (by decide)).trans hE16_85
        have hE19_86 := (oE19 86 (by decide)).trans hE16_86
        have hE19_87 := (oE19 87 (by decide)).trans hE16_87
        have hE19_88 := (oE19 88 (by decide)).trans hE16_88
        have hE19_89 := (oE19 89 (by decide)).trans hE16_89
        have hE19_90 := (oE19 90 (by decide)).trans hE16_90
        obtain ⟨x20, ex20⟩ : ∃ y : Int32, y = y3 + 1 := ⟨_, rfl⟩
        have hx20 : x20.toInt = ((i1 : Int) + 1) := by rw [ex20]; exact ti_add hy3 (show (1 : Int32).toInt = 1 by decide) (by omega) (by omega)
        refine v_iinc (v := x20) (lv' := [(0, .ref (ad 68)), (1, .int p), (2, .int x20)]) C 2 [1, 2, 0] dX9_take_71 rfl (ex20.symm) (by decide) rfl ?_
        refine v_goto C 12 dX9_take_74 (by decide) ?_
        exact ih8 (i1 + 1) x20 E19 (upd o1 i1 (gop (10 * pp + i1))) (upd x1 i1 (gx (10 * pp + i1))) (upd y1 i1 (gy (10 * pp + i1))) (show Int32.toInt x20 = ((i1 + 1 : Nat) : Int) by have := hx20; omega) hE19_89 hE19_90 hE19_91 (fun j g0 g1 g2 => ((oE19 j g2).trans ((oE16 j g1).trans ((oE13 j g0).trans (hfr5 j g0 g1 g2))))) (by omega) (fun j hj => by by_cases q : j = i1; (subst q; rw [upd_same, upd_same, upd_same]; exact ⟨rfl, rfl, rfl⟩); (rw [upd_ne q, upd_ne q, upd_ne q]; exact hag j (by omega))) (by omega)
  exact LP2 100000 0 0 E1 o0 x0 y0 (show Int32.toInt 0 = ((0 : Nat) : Int) by have := (show (0 : Int32).toInt = 0 by decide); omega) hE1_89 hE1_90 hE1_91 (fun j _ _ _ => rfl) (by omega) (fun j hj => absurd hj (by omega)) (by omega)

set_option maxRecDepth 20000 in
theorem y_wallOf (l : Launch) (G : Gl) (n : Nat) (ad : Nat → Nat) (E : Nat → va_E) (hn : 98 ≤ n) {im ic md : Nat → Int32} (hW : MCal G ad E im ic md) {rf rto ron rat rbe rtd rm fv : Nat → Int32} (hR : ZMr G E rf rto ron rat rbe rtd rm fv) {TT : Nat → TST} (hS : ZMs G E 5 TT) (hTT : ∀ z, z < 5 → TT z = TTz ic md rf rto ron rat rbe rtd rm fv (im 18).toInt z) (hV : ∀ z, z < 5 → RZv ic rf rto ron rat rbe rtd rm fv z) {zz : Nat} (hzz : zz < 5) (z : Int32) (m : Int32) (hz : z.toInt = (zz : Int)) (hm : 0 ≤ m.toInt ∧ m.toInt < 60000000) : CtI l G yX9_wallOf cX9_wallOf 4 .int 5 121 (n) ad E [.ref (ad 68), .int z, .int m] (fun r E' => (r.toInt = lwF ic md (TT zz) m.toInt) ∧ FQ G ad E E' im ic md 5 TT) := by
  refine CtI.of (by decide) (Nat.le_of_ble_eq_true rfl) (fun X A C => ?_)
  refine v_sub (lv' := [(0, .ref (ad 68)), (1, .int z), (2, .int m)]) [0, 1, 2] rfl ?_
  have hP := hW.2.1
  have h68 := hW.2.2.1
  have hcy := cal_y hP
  have h8T : ∀ z, z < 5 → (TT z).1 ≤ 800 := fun z hz => by rw [hTT z hz]; exact (TTz_ok hP (hV z hz)).2
  have hokT : ∀ z, z < 5 → okT 69300000 (TT z) := fun z hz => by rw [hTT z hz]; exact (TTz_ok hP (hV z hz)).1
  refine v_iload_n C 2 dX9_wallOf_0 rfl rfl ?_
  refine v_aload_n C 0 dX9_wallOf_1 rfl rfl ?_
  refine v_iload_n C 1 dX9_wallOf_2 rfl rfl ?_
  refine v_iload_n C 2 dX9_wallOf_3 rfl rfl ?_
  refine v_cVi C dX9_wallOf_4 lX9_182 mX9_offsetAt 68 (by omega) h68 (by decide) rfl (y_offsetAt l G n ad _ hn hW hR hS (k := 5) (zz := zz) (by omega) (by omega) hTT hV (T := TT zz) rfl (c := (TT zz).1) rfl z m hz) ⟨by decide, by decide⟩ rfl (Nat.le_of_ble_eq_true rfl) ⟨Nat.zero_le _, Nat.zero_le _⟩ (fun r1 E2 hq3 => ?_)
  obtain ⟨hF4, hq3⟩ := hq3
  obtain ⟨im5, hi5, hW5, hS5, hO5⟩ := id hF4
  have hR5 := hR.go (fun j h1 h2 => hO5 j (by omega) (by omega) (by omega))
  have hTT5 : ∀ z, z < 5 → TT z = TTz ic md rf rto ron rat rbe rtd rm fv (im5 18).toInt z := fun z hz => by rw [hi5 18 (by decide)]; exact hTT z hz
  have hG5 := hF4
  have e685 := hW5.2.2.1
  obtain ⟨jt, hTj, hrv⟩ := hq3
  rw [ofT_tt hTj] at hrv
  have hob := ofT_bd (m := m.toInt) (hokT zz hzz)
  refine v_iadd C dX9_wallOf_7 ?_
  refine v_top (fun x6 ex6 => ?_)
  have hx6 : x6.toInt = (m.toInt + (ofT (TT zz) m.toInt)) := by rw [ex6]; exact ti_add (rfl : Int32.toInt m = _) hrv (by omega) (by omega)
  refine v_istore_n (lv' := [(0, .ref (ad 68)), (1, .int z), (2, .int m), (3, .int x6)]) C [1, 2, 3, 0] dX9_wallOf_8 rfl (by decide) rfl ?_
  refine v_aload_n C 0 dX9_wallOf_9 rfl rfl ?_
  refine v_iload_n C 3 dX9_wallOf_10 rfl rfl ?_
  refine v_cVi C dX9_wallOf_11 lX9_185 mX9_isWall 68 (by omega) e685 (by decide) rfl (y_isWall l G n ad _ hn hW5 x6) ⟨by decide, by decide⟩ rfl (Nat.le_of_ble_eq_true rfl) ⟨Nat.zero_le _, Nat.zero_le _⟩ (fun r7 E9 hp8 => ?_)
  obtain ⟨hp8, hp8m⟩ := hp8
  have hF10 := FQ.mr hS5 hp8m
  obtain ⟨im11, hi11, hW11, hS11, hO11⟩ := id hF10
  have hR11 := hR5.go (fun j h1 h2 => hO11 j (by omega) (by omega) (by omega))
  have hTT11 : ∀ z, z < 5 → TT z = TTz ic md rf rto ron rat rbe rtd rm fv (im11 18).toInt z := fun z hz => by rw [hi11 18 (by decide)]; exact hTT5 z hz
  have hG11 := FQ.trans hi5 hO5 hF10
  have hit11 : ∀ q, q ≠ 7 → im11 q = im q := fun q hq => (hi11 q hq).trans (hi5 q hq)
  have hOt11 : ∀ j, j ≠ 68 → j ≠ 70 → (j < 79 ∨ 84 < j) → E9 j = E j := fun j g1 g2 g3 => (hO11 j g1 g2 g3).trans (hO5 j g1 g2 g3)
  have e6811 := hW11.2.2.1
  rw [hx6] at hp8
  rcases hp8 with ⟨rfl, hp8⟩ | ⟨rfl, hp8⟩
  · refine b_if_eq C 21 dX9_wallOf_14 (by decide) (show (1 : Int32).toInt = 1 by decide) (fun c12 => absurd c12 (by decide)) (fun c12 => ?_)
    refine v_iload_n C 3 dX9_wallOf_17 rfl rfl ?_
    refine v_goto C 22 dX9_wallOf_18 (by decide) ?_
    exact v_ret C dX9_wallOf_22 rfl rfl ⟨(by unfold lwF; rw [if_pos (by unfold okW; omega)]; exact hx6), hG11⟩
  · refine b_if_eq C 21 dX9_wallOf_14 (by decide) (show (0 : Int32).toInt = 0 by decide) (fun c13 => ?_) (fun c13 => absurd c13 (by decide))
    refine v_iconst (v := (-1)) C dX9_wallOf_21 (by decide) ?_
    exact v_ret C dX9_wallOf_22 rfl rfl ⟨(by unfold lwF; rw [if_neg (by unfold okW; omega)]; decide), hG11⟩

theorem RU_wi {ic md : Nat → Int32} {TT : Nat → TST} {fo fx fy : Nat → Int32} {n : Nat} {m : Int} {K : Nat → Int32} {V : Nat → Int} (hm : 0 ≤ m ∧ m < 60000000) (hop : ∀ j, j < n → 0 ≤ (fo j).toInt ∧ (fo j).toInt ≤ 11) (hw : RSf fo n = some (1, K)) (hv : RVf ic md TT fo fx fy m n = some V) : wiK ic md (K 0).toInt (RUv ic md TT fo fx fy n m) := by
  rw [RU_some hv]
  have H := RV_ok (ic := ic) (md := md) (TT := TT) (fx := fx) (fy := fy) hm hop hw n (Nat.le_refl n) (1, K) V hw hv
  exact H 0 (show ((0 : Nat) : Int) < 1 by decide)

set_option maxRecDepth 20000 in
theorem y_isKept (l : Launch) (G : Gl) (n : Nat) (ad : Nat → Nat) (E : Nat → va_E) (hn : 98 ≤ n) {im ic md : Nat → Int32} (hW : MCal G ad E im ic md) {rf rto ron rat rbe rtd rm fv : Nat → Int32} (hR : ZMr G E rf rto ron rat rbe rtd rm fv) {TT : Nat → TST} (hS : ZMs G E 5 TT) (hTT : ∀ z, z < 5 → TT z = TTz ic md rf rto ron rat rbe rtd rm fv (im 18).toInt z) (hV : ∀ z, z < 5 → RZv ic rf rto ron rat rbe rtd rm fv z) {kd vl : Nat → Int32} (h92 : E 92 = aI G 8 kd) (h93 : E 93 = aI G 8 vl) {fo fx fy : Nat → Int32} (h89 : E 89 = aI G 10 fo) (h90 : E 90 = aI G 10 fx) (h91 : E 91 = aI G 10 fy) {k N : Nat} (hk5 : k ≤ 5) (hN10 : N ≤ 10) (hnN : (im 32).toInt = (N : Int)) (hop : ∀ j, j < N → 0 ≤ (fo j).toInt ∧ (fo j).toInt ≤ 11) (hln : ∀ j, j < N → okLn (k : Int) (fo j).toInt (fx j).toInt (fy j).toInt) {Kw : Nat → Int32} (hwh : RSf fo N = some (1, Kw)) (x : Int32) (v : Int32) (m : Int32) (hlw : okLW (k : Int) x.toInt v.toInt) (hm : 0 ≤ m.toInt ∧ m.toInt < 60000000) : CtI l G yX9_isKept cX9_isKept 7 .boolean 8 197 (n) ad E [.ref (ad 68), .int x, .int v, .int m] (fun r E' => ((r = 1 ∧ KPt ic md TT fo fx fy N x.toInt v.toInt m.toInt) ∨ (r = 0 ∧ ¬ KPt ic md TT fo fx fy N x.toInt v.toInt m.toInt)) ∧ ∃ (g1 : Int) (kd1 vl1 im1 : Nat → Int32), (∀ q, q ≠ 7 → q ≠ 35 → im1 q = im q) ∧ (im1 35).toInt = g1 ∧ MCal G ad E' im1 ic md ∧ ZMs G E' 5 TT ∧ E' 92 = aI G 8 kd1 ∧ E' 93 = aI G 8 vl1 ∧ ∀ j, j ≠ 68 → j ≠ 70 → (j < 79 ∨ 84 < j) → j ≠ 92 → j ≠ 93 → E' j = E j) := by
  refine CtI.of (by decide) (Nat.le_of_ble_eq_true rfl) (fun X A C => ?_)
  refine v_sub (lv' := [(0, .ref (ad 68)), (1, .int x), (2, .int v), (3, .int m)]) [0, 1, 2, 3] rfl ?_
  have hP := hW.2.1
  have h68 := hW.2.2.1
  have hcy := cal_y hP
  have h8T : ∀ z, z < 5 → (TT z).1 ≤ 800 := fun z hz => by rw [hTT z hz]; exact (TTz_ok hP (hV z hz)).2
  have hokT : ∀ z, z < 5 → okT 69300000 (TT z) := fun z hz => by rw [hTT z hz]; exact (TTz_ok hP (hV z hz)).1
  have hlx := hlw.1
  have hva := ti_any v
  have hl4 : x.toInt % 10 ≤ 4 := by have q := hlw; unfold okLW at q; omega
  refine v_aload_n C 0 dX9_isKept_0 rfl rfl ?_
  refine v_iload_n C 3 dX9_isKept_1 rfl rfl ?_
  refine v_cVi C dX9_isKept_2 lX9_253 mX9_runs 68 (by omega) h68 (by decide) rfl (y_runs l G n ad _ hn hW hR hS hTT hV h92 h93 h89 h90 h91 hk5 hN10 hnN hop hln hwh m hm) ⟨by decide, by decide⟩ rfl (Nat.le_of_ble_eq_true rfl) ⟨Nat.zero_le _, Nat.zero_le _⟩ (fun r1 E2 hq3 => ?_)
  rcases hq3 with ⟨rfl, V1, kd1, vl1, hRV, hv0, hk0, hD⟩ | ⟨rfl, hRV, g1, kd1, vl1, hD⟩
  · obtain ⟨im1, u1, u3, u4, u5, u6, u7, u8⟩ := id hD
    have e68a := u4.2.2.1
    have hR1 := hR.go (fun j g1 g2 => u8 j (by omega) (by omega) (by omega) (by omega) (by omega))
    have hT1 : ∀ z, z < 5 → TT z = TTz ic md rf rto ron rat rbe rtd rm fv (im1 18).toInt z := fun z hz => by rw [u1 18 (by decide) (by decide)]; exact hTT z hz
    have hRU := RU_some hRV
    have hv9 : (vl1 0).toInt = RUv ic md TT fo fx fy N m.toInt := hv0.trans hRU.symm
    have hKd : (kd1 0).toInt = KDr fo N := by rw [hk0, KD_of hwh]
    have hK0 := (RS_ok N _ hwh).2 0 (show ((0 : Nat) : Int) < 1 by decide)
    dsimp only at hK0
    have hKw : KDr fo N = (Kw 0).toInt := KD_of hwh
    have hne : wiK ic md (Kw 0).toInt (RUv ic md TT fo fx fy N m.toInt) := RU_wi hm hop hwh hRV
    have hnb := ti_wi hP hne
    rw [← hKw] at hne
    have hne0 : KDr fo N = 0 → 0 ≤ RUv ic md TT fo fx fy N m.toInt ∧ RUv ic md TT fo fx fy N m.toInt < 60000000 := fun q => by rw [q] at hne; unfold wiK at hne; omega
    clear hne
    refine b_if_ne C 10 dX9_isKept_5 (by decide) (show (1 : Int32).toInt = 1 by decide) (fun c4 => ?_) (fun c4 => absurd c4 (by decide))
    refine v_aload_n C 0 dX9_isKept_10 rfl rfl ?_
    refine v_getr C 68 dX9_isKept_11 fX9_100 (by omega) e68a rfl rfl ?_
    refine v_iconst (v := 0) C dX9_isKept_14 (by decide) ?_
    refine v_ald (v := vl1 0) C 93 dX9_isKept_15 (by omega) u7 (ti_in (show (0 : Int32).toInt = 0 by decide) (by omega) (by omega)) (congrArg vl1 (by decide)) ?_
    refine v_istore (lv' := [(0, .ref (ad 68)), (1, .int x), (2, .int v), (3, .int m), (4, .int (vl1 0))]) C [1, 2, 3, 4, 0] dX9_isKept_16 (by decide) rfl ?_
    refine v_aload_n C 0 dX9_isKept_18 rfl rfl ?_
    refine v_getr C 68 dX9_isKept_19 fX9_97 (by omega) e68a rfl rfl ?_
    refine v_iconst (v := 0) C dX9_isKept_22 (by decide) ?_
    refine v_ald (v := kd1 0) C 92 dX9_isKept_23 (by omega) u6 (ti_in (show (0 : Int32).toInt = 0 by decide) (by omega) (by omega)) (congrArg kd1 (by decide)) ?_
    refine b_if_ne C 31 dX9_isKept_24 (by decide) hKd (fun c5 => ?_) (fun c5 => ?_)
    · refine v_iconst (v := 0) C dX9_isKept_31 (by decide) ?_
      refine v_istore (lv' := [(0, .ref (ad 68)), (1, .int x), (2, .int v), (3, .int m), (4, .int (vl1 0)), (5, .int 0)]) C [1, 2, 3, 4, 5, 0] dX9_isKept_32 (by decide) rfl ?_
      refine v_iload_n C 1 dX9_isKept_34 rfl rfl ?_
      refine v_bipush (v := 10) C dX9_isKept_35 (by decide) ?_
      refine v_idiv C dX9_isKept_37 (by decide) ?_
      refine v_top (fun x6 ex6 => ?_)
      have hx6 : x6.toInt = (x.toInt / 10) := by rw [ex6]; exact ti_div (rfl : Int32.toInt x = _) (show (10 : Int32).toInt = 10 by decide) (by omega) (by omega)
      refine v_istore (lv' := [(0, .ref (ad 68)), (1, .int x), (2, .int v), (3, .int m), (4, .int (vl1 0)), (5, .int 0), (6, .int x6)]) C [1, 2, 3, 4, 5, 6, 0] dX9_isKept_38 (by decide) rfl ?_
      refine v_iload_n C 1 dX9_isKept_40 rfl rfl ?_
      refine v_bipush (v := 10) C dX9_isKept_41 (by decide) ?_
      refine v_irem C dX9_isKept_43 (by decide) ?_
      refine v_top (fun x7 ex7 => ?_)
      have hx7 : x7.toInt = (x.toInt % 10) := by rw [ex7]; exact ti_rem (rfl : Int32.toInt x = _) (show (10 : Int32).toInt = 10 by decide) (by omega) (by omega)
      have q8v : Int32.toInt x7 = (x.toInt % 10) := hx7
      rcases (show (x.toInt % 10) = 0 ∨ (x.toInt % 10) = 1 ∨ (x.toInt % 10) = 2 ∨ (x.toInt % 10) = 3 ∨ ((x.toInt % 10) < 0 ∨ 3 < (x.toInt % 10)) by omega) with q8 | q8 | q8 | q8 | q8
      · refine v_tableIn (off := 32) C 76 dX9_isKept_44 (by omega) (by omega) (by rw [q8v, q8]; rfl) (by decide) ?_
        refine v_iload C 5 dX9_isKept_76 rfl ?_
        refine b_if_eq C 97 dX9_isKept_78 (by decide) (show (0 : Int32).toInt = 0 by decide) (fun c9 => ?_) (fun c9 => absurd c9 (by decide))
        refine v_iconst (v := 0) C dX9_isKept_97 (by decide) ?_
        exact v_ret C dX9_isKept_98 rfl rfl ⟨Or.inr ⟨rfl, by unfold KPt HLp; omega⟩, ⟨_, _, _, _, u1, rfl, u4, u5, u6, u7, fun j g1 g2 g3 g4 g5 => (u8 j (by omega) (by omega) (by omega) (by omega) (by omega))⟩⟩
      · refine v_tableIn (off := 55) C 99 dX9_isKept_44 (by omega) (by omega) (by rw [q8v, q8]; rfl) (by decide) ?_
        refine v_iload C 5 dX9_isKept_99 rfl ?_
        refine b_if_eq C 135 dX9_isKept_101 (by decide) (show (0 : Int32).toInt = 0 by decide) (fun c10 => ?_) (fun c10 => absurd c10 (by decide))
        refine v_iconst (v := 0) C dX9_isKept_135 (by decide) ?_
        exact v_ret C dX9_isKept_136 rfl rfl ⟨Or.inr ⟨rfl, by unfold KPt HLp; omega⟩, ⟨_, _, _, _, u1, rfl, u4, u5, u6, u7, fun j g1 g2 g3 g4 g5 => (u8 j (by omega) (by omega) (by omega) (by omega) (by omega))⟩⟩
      · refine v_tableIn (off := 93) C 137 dX9_isKept_44 (by omega) (by omega) (by rw [q8v, q8]; rfl) (by decide) ?_
        refine v_iload C 5 dX9_isKept_137 rfl ?_
        refine b_if_eq C 201 dX9_isKept_139 (by decide) (show (0 : Int32).toInt = 0 by decide) (fun c11 => ?_) (fun c11 => absurd c11 (by decide))
        refine v_iconst (v := 0) C dX9_isKept_201 (by decide) ?_
        exact v_ret C dX9_isKept_202 rfl rfl ⟨Or.inr ⟨rfl, by unfold KPt HLp; omega⟩, ⟨_, _, _, _, u1, rfl, u4, u5, u6, u7, fun j g1 g2 g3 g4 g5 => (u8 j (by omega) (by omega) (by omega) (by omega) (by omega))⟩⟩
      · refine v_tableIn (off := 159) C 203 dX9_isKept_44 (by omega) (by omega) (by rw [q8v, q8]; rfl) (by decide) ?_
        refine v_aload_n C 0 dX9_isKept_203 rfl rfl ?_
        refine v_getr C 68 dX9_isKept_204 fX9_97 (by omega) e68a rfl rfl ?_
        refine v_iconst (v := 0) C dX9_isKept_207 (by decide) ?_
        refine v_ald (v := kd1 0) C 92 dX9_isKept_208 (by omega) u6 (ti_in (show (0 : Int32).toInt = 0 by decide) (by omega) (by omega)) (congrArg kd1 (by decide)) ?_
        refine v_iconst (v := 3) C dX9_isKept_209 (by decide) ?_
        refine b_icmp_ne C 223 dX9_isKept_210 (by decide) hKd (show (3 : Int32).toInt = 3 by decide) (fun c12 => ?_) (fun c12 => ?_)
        · refine v_iconst (v := 0) C dX9_isKept_223 (by decide) ?_
          exact v_ret C dX9_isKept_224 rfl rfl ⟨Or.inr ⟨rfl, by unfold KPt HLp; omega⟩, ⟨_, _, _, _, u1, rfl, u4, u5, u6, u7, fun j g1 g2 g3 g4 g5 => (u8 j (by omega) (by omega) (by omega) (by omega) (by omega))⟩⟩
        · refine v_iload C 4 dX9_isKept_213 rfl ?_
          refine v_iload_n C 2 dX9_isKept_215 rfl rfl ?_
          refine b_icmp_lt C 223 dX9_isKept_216 (by decide) hv9 (rfl : Int32.toInt v = _) (fun c13 => ?_) (fun c13 => ?_)
          · refine v_iconst (v := 0) C dX9_isKept_223 (by decide) ?_
            exact v_ret C dX9_isKept_224 rfl rfl ⟨Or.inr ⟨rfl, by unfold KPt HLp; omega⟩, ⟨_, _, _, _, u1, rfl, u4, u5, u6, u7, fun j g1 g2 g3 g4 g5 => (u8 j (by omega) (by omega) (by omega) (by omega) (by omega))⟩⟩
          · refine v_iconst (v := 1) C dX9_isKept_219 (by decide) ?_
            refine v_goto C 224 dX9_isKept_220 (by decide) ?_
            exact v_ret C dX9_isKept_224 rfl rfl ⟨Or.inl ⟨rfl, by unfold KPt HLp; omega⟩, ⟨_, _, _, _, u1, rfl, u4, u5, u6, u7, fun j g1 g2 g3 g4 g5 => (u8 j (by omega) (by omega) (by omega) (by omega) (by omega))⟩⟩
      · refine v_tableOut C 225 dX9_isKept_44 (by omega) (by decide) ?_
        refine v_iconst (v := 1) C dX9_isKept_225 (by decide) ?_
        exact v_ret C dX9_isKept_226 rfl rfl ⟨Or.inl ⟨rfl, by unfold KPt HLp; omega⟩, ⟨_, _, _, _, u1, rfl, u4, u5, u6, u7, fun j g1 g2 g3 g4 g5 => (u8 j (by omega) (by omega) (by omega) (by omega) (by omega))⟩⟩
    · refine v_iconst (v := 1) C dX9_isKept_27 (by decide) ?_
      refine v_goto C 32 dX9_isKept_28 (by decide) ?_
      refine v_istore (lv' := [(0, .ref (ad 68)), (1, .int x), (2, .int v), (3, .int m), (4, .int (vl1 0)), (5, .int 1)]) C [1, 2, 3, 4, 5, 0] dX9_isKept_32 (by decide) rfl ?_
      refine v_iload_n C 1 dX9_isKept_34 rfl rfl ?_
      refine v_bipush (v := 10) C dX9_isKept_35 (by decide) ?_
      refine v_idiv C dX9_isKept_37 (by decide) ?_
      refine v_top (fun x14 ex14 => ?_)
      have hx14 : x14.toInt = (x.toInt / 10) := by rw [ex14]; exact ti_div (rfl : Int32.toInt x = _) (show (10 : Int32).toInt = 10 by decide) (by omega) (by omega)
      refine v_istore (lv' := [(0, .ref (ad 68)), (1, .int x), (2, .int v), (3, .int m), (4, .int (vl1 0)), (5, .int 1), (6, .int x14)]) C [1, 2, 3, 4, 5, 6, 0] dX9_isKept_38 (by decide) rfl ?_
      refine v_iload_n C 1 dX9_isKept_40 rfl rfl ?_
      refine v_bipush (v := 10) C dX9_isKept_41 (by decide) ?_
      refine v_irem C dX9_isKept_43 (by decide) ?_
      refine v_top (fun x15 ex15 => ?_)
      have hx15 : x15.toInt = (x.toInt % 10) := by rw [ex15]; exact ti_rem (rfl : Int32.toInt x = _) (show (10 : Int32).toInt = 10 by decide) (by omega) (by omega)
      have q16v : Int32.toInt x15 = (x.toInt % 10) := hx15
      rcases (show (x.toInt % 10) = 0 ∨ (x.toInt % 10) = 1 ∨ (x.toInt % 10) = 2 ∨ (x.toInt % 10) = 3 ∨ ((x.toInt % 10) < 0 ∨ 3 < (x.toInt % 10)) by omega) with q16 | q16 | q16 | q16 | q16
      · refine v_tableIn (off := 32) C 76 dX9_isKept_44 (by omega) (by omega) (by rw [q16v, q16]; rfl) (by decide) ?_
        refine v_iload C 5 dX9_isKept_76 rfl ?_
        refine b_if_eq C 97 dX9_isKept_78 (by decide) (show (1 : Int32).toInt = 1 by decide) (fun c17 => absurd c17 (by decide)) (fun c17 => ?_)
        refine v_iload C 4 dX9_isKept_81 rfl ?_
        refine v_i2l C dX9_isKept_83 rfl ?_
        refine v_topl (fun x18 ex18 => ?_)
        have hx18 : x18.toInt = (RUv ic md TT fo fx fy N m.toInt) := by rw [ex18]; exact tl_of hv9
        refine v_iload_n C 3 dX9_isKept_84 rfl rfl ?_
        refine v_i2l C dX9_isKept_85 rfl ?_
        refine v_topl (fun x19 ex19 => ?_)
        have hx19 : x19.toInt = m.toInt := by rw [ex19]; exact tl_of (rfl : Int32.toInt m = _)
        refine v_iload_n C 2 dX9_isKept_86 rfl rfl ?_
        refine v_i2l C dX9_isKept_87 rfl ?_
        refine v_topl (fun x20 ex20 => ?_)
        have hx20 : x20.toInt = v.toInt := by rw [ex20]; exact tl_of (rfl : Int32.toInt v = _)
        refine v_ladd C dX9_isKept_88 ?_
        refine v_topl (fun x21 ex21 => ?_)
        have hx21 : x21.toInt = (m.toInt + v.toInt) := by rw [ex21]; exact tl_add hx19 hx20 (by omega) (by omega)
        refine v_lcmp C dX9_isKept_89 ?_
        refine v_top (fun x22 ex22 => ?_)
        have hx22 : ((m.toInt + v.toInt) < (RUv ic md TT fo fx fy N m.toInt) ∧ x22.toInt = 1) ∨ ((RUv ic md TT fo fx fy N m.toInt) = (m.toInt + v.toInt) ∧ x22.toInt = 0) ∨ ((RUv ic md TT fo fx fy N m.toInt) < (m.toInt + v.toInt) ∧ x22.toInt = -1) := by rw [ex22]; exact tl_cmp hx18 hx21
        refine b_if_lt C 97 dX9_isKept_90 (by decide) (rfl : Int32.toInt x22 = _) (fun c23 => ?_) (fun c23 => ?_)
        · refine v_iconst (v := 0) C dX9_isKept_97 (by decide) ?_
          exact v_ret C dX9_isKept_98 rfl rfl ⟨Or.inr ⟨rfl, by unfold KPt HLp; omega⟩, ⟨_, _, _, _, u1, rfl, u4, u5, u6, u7, fun j g1 g2 g3 g4 g5 => (u8 j (by omega) (by omega) (by omega) (by omega) (by omega))⟩⟩
        · refine v_iconst (v := 1) C dX9_isKept_93 (by decide) ?_
          refine v_goto C 98 dX9_isKept_94 (by decide) ?_
          exact v_ret C dX9_isKept_98 rfl rfl ⟨Or.inl ⟨rfl, by unfold KPt HLp; omega⟩, ⟨_, _, _, _, u1, rfl, u4, u5, u6, u7, fun j g1 g2 g3 g4 g5 => (u8 j (by omega) (by omega) (by omega) (by omega) (by omega))⟩⟩
      · refine v_tableIn (off := 55) C 99 dX9_isKept_44 (by omega) (by omega) (by rw [q16v, q16]; rfl) (by decide) ?_
        refine v_iload C 5 dX9_isKept_99 rfl ?_
        refine b_if_eq C 135 dX9_isKept_101 (by decide) (show (1 : Int32).toInt = 1 by decide) (fun c24 => absurd c24 (by decide)) (fun c24 => ?_)
        refine v_aload_n C 0 dX9_isKept_104 rfl rfl ?_
        refine v_iload C 6 dX9_isKept_105 rfl ?_
        refine v_iload C 4 dX9_isKept_107 rfl ?_
        refine v_cVi C dX9_isKept_109 lX9_256 mX9_wallOf 68 (by omega) e68a (by decide) rfl (y_wallOf l G n ad _ hn u4 hR1 u5 hT1 hV (zz := (x.toInt / 10).toNat) (by unfold okLW at hlw; omega) x14 (vl1 0) (by have := hx14; unfold okLW at hlw; omega) (by have := hv9; have := hne0 (by omega); omega)) ⟨by decide, by decide⟩ rfl (Nat.le_of_ble_eq_true rfl) ⟨Nat.zero_le _, Nat.zero_le _⟩ (fun r25 E26 hq27 => ?_)
        obtain ⟨hq27, hF28⟩ := hq27
        rw [hv9] at hq27
        have hbr25 := lw_bd (T := TT (x.toInt / 10).toNat) (m := (RUv ic md TT fo fx fy N m.toInt)) hP
        obtain ⟨im29, hi29, hW29, hS29, hO29⟩ := id hF28
        have hR29 := hR1.go (fun j h1 h2 => hO29 j (by omega) (by omega) (by omega))
        have hT29 : ∀ z, z < 5 → TT z = TTz ic md rf rto ron rat rbe rtd rm fv (im29 18).toInt z := fun z hz => by rw [hi29 18 (by decide)]; exact hT1 z hz
        have hI29 : ∀ q, q ≠ 7 → q ≠ 35 → im29 q = im q := fun q g1 g2 => (hi29 q g1).trans (u1 q g1 g2)
        have hE26_92 := (hO29 92 (by decide) (by decide) (by decide)).trans u6
        have hE26_93 := (hO29 93 (by decide) (by decide) (by decide)).trans u7
        have e6829 := hW29.2.2.1
        refine b_if_lt C 135 dX9_isKept_112 (by decide) hq27 (fun c30 => ?_) (fun c30 => ?_)
        · refine v_iconst (v := 0) C dX9_isKept_135 (by decide) ?_
          exact v_ret C dX9_isKept_136 rfl rfl ⟨Or.inr ⟨rfl, by unfold KPt HLp; omega⟩, ⟨_, _, _, _, hI29, rfl, hW29, hS29, hE26_92, hE26_93, fun j g1 g2 g3 g4 g5 => ((hO29 j (by omega) (by omega) (by omega)).trans (u8 j (by omega) (by omega) (by omega) (by omega) (by omega)))⟩⟩
        · refine v_aload_n C 0 dX9_isKept_115 rfl rfl ?_
          refine v_iload C 6 dX9_isKept_116 rfl ?_
          refine v_iload C 4 dX9_isKept_118 rfl ?_
          refine v_cVi C dX9_isKept_120 lX9_256 mX9_wallOf 68 (by omega) e6829 (by decide) rfl (y_wallOf l G n ad _ hn hW29 hR29 hS29 hT29 hV (zz := (x.toInt / 10).toNat) (by unfold okLW at hlw; omega) x14 (vl1 0) (by have := hx14; unfold okLW at hlw; omega) (by have := hv9; have := hne0 (by omega); omega)) ⟨by decide, by decide⟩ rfl (Nat.le_of_ble_eq_true rfl) ⟨Nat.zero_le _, Nat.zero_le _⟩ (fun r31 E32 hq33 => ?_)
          obtain ⟨hq33, hF34⟩ := hq33
          rw [hv9] at hq33
          have hbr31 := lw_bd (T := TT (x.toInt / 10).toNat) (m := (RUv ic md TT fo fx fy N m.toInt)) hP
          obtain ⟨im35, hi35, hW35, hS35, hO35⟩ := id hF34
          have hR35 := hR29.go (fun j h1 h2 => hO35 j (by omega) (by omega) (by omega))
          have hT35 : ∀ z, z < 5 → TT z = TTz ic md rf rto ron rat rbe rtd rm fv (im35 18).toInt z := fun z hz => by rw [hi35 18 (by decide)]; exact hT29 z hz
          have hI35 : ∀ q, q ≠ 7 → q ≠ 35 → im35 q = im q := fun q g1 g2 => (hi35 q g1).trans (hI29 q g1 g2)
          have hE32_92 := (hO35 92 (by decide) (by decide) (by decide)).trans hE26_92
          have hE32_93 := (hO35 93 (by decide) (by decide) (by decide)).trans hE26_93
          have e6835 := hW35.2.2.1
          refine v_sipush (v := 1440) C dX9_isKept_123 (by decide) ?_
          refine v_irem C dX9_isKept_126 (by decide) ?_
          refine v_top (fun x36 ex36 => ?_)
          have hx36 : x36.toInt = ((lwF ic md (TT (x.toInt / 10).toNat) (RUv ic md TT fo fx fy N m.toInt)) % 1440) := by rw [ex36]; exact ti_rem hq33 (show (1440 : Int32).toInt = 1440 by decide) (by omega) (by omega)
          refine v_iload_n C 2 dX9_isKept_127 rfl rfl ?_
          refine b_icmp_ne C 135 dX9_isKept_128 (by decide) hx36 (rfl : Int32.toInt v = _) (fun c37 => ?_) (fun c37 => ?_)
          · refine v_iconst (v := 0) C dX9_isKept_135 (by decide) ?_
            exact v_ret C dX9_isKept_136 rfl rfl ⟨Or.inr ⟨rfl, by unfold KPt HLp; omega⟩, ⟨_, _, _, _, hI35, rfl, hW35, hS35, hE32_92, hE32_93, fun j g1 g2 g3 g4 g5 => ((hO35 j (by omega) (by omega) (by omega)).trans ((hO29 j (by omega) (by omega) (by omega)).trans (u8 j (by omega) (by omega) (by omega) (by omega) (by omega))))⟩⟩
          · refine v_iconst (v := 1) C dX9_isKept_131 (by decide) ?_
            refine v_goto C 136 dX9_isKept_132 (by decide) ?_
            exact v_ret C dX9_isKept_136 rfl rfl ⟨Or.inl ⟨rfl, by unfold KPt HLp; omega⟩, ⟨_, _, _, _, hI35, rfl, hW35, hS35, hE32_92, hE32_93, fun j g1 g2 g3 g4 g5 => ((hO35 j (by omega) (by omega) (by omega)).trans ((hO29 j (by omega) (by omega) (by omega)).trans (u8 j (by omega) (by omega) (by omega) (by omega) (by omega))))⟩⟩
      · refine v_tableIn (off := 93) C 137 dX9_isKept_44 (by omega) (by omega) (by rw [q16v, q16]; rfl) (by decide) ?_
        refine v_iload C 5 dX9_isKept_137 rfl ?_
        refine b_if_eq C 201 dX9_isKept_139 (by decide) (show (1 : Int32).toInt = 1 by decide) (fun c38 => absurd c38 (by decide)) (fun c38 => ?_)
        refine v_aload_n C 0 dX9_isKept_142 rfl rfl ?_
        refine v_iload C 6 dX9_isKept_143 rfl ?_
        refine v_iload C 4 dX9_isKept_145 rfl ?_
        refine v_cVi C dX9_isKept_147 lX9_256 mX9_wallOf 68 (by omega) e68a (by decide) rfl (y_wallOf l G n ad _ hn u4 hR1 u5 hT1 hV (zz := (x.toInt / 10).toNat) (by unfold okLW at hlw; omega) x14 (vl1 0) (by have := hx14; unfold okLW at hlw; omega) (by have := hv9; have := hne0 (by omega); omega)) ⟨by decide, by decide⟩ rfl (Nat.le_of_ble_eq_true rfl) ⟨Nat.zero_le _, Nat.zero_le _⟩ (fun r39 E40 hq41 => ?_)
        obtain ⟨hq41, hF42⟩ := hq41
        rw [hv9] at hq41
        have hbr39 := lw_bd (T := TT (x.toInt / 10).toNat) (m := (RUv ic md TT fo fx fy N m.toInt)) hP
        obtain ⟨im43, hi43, hW43, hS43, hO43⟩ := id hF42
        have hR43 := hR1.go (fun j h1 h2 => hO43 j (by omega) (by omega) (by omega))
        have hT43 : ∀ z, z < 5 → TT z = TTz ic md rf rto ron rat rbe rtd rm fv (im43 18).toInt z := fun z hz => by rw [hi43 18 (by decide)]; exact hT1 z hz
        have hI43 : ∀ q, q ≠ 7 → q ≠ 35 → im43 q = im q := fun q g1 g2 => (hi43 q g1).trans (u1 q g1 g2)
        have hE40_92 := (hO43 92 (by decide) (by decide) (by decide)).trans u6
        have hE40_93 := (hO43 93 (by decide) (by decide) (by decide)).trans u7
        have e6843 := hW43.2.2.1
        refine b_if_lt C 201 dX9_isKept_150 (by decide) hq41 (fun c44 => ?_) (fun c44 => ?_)
        · refine v_iconst (v := 0) C dX9_isKept_201 (by decide) ?_
          exact v_ret C dX9_isKept_202 rfl rfl ⟨Or.inr ⟨rfl, by unfold KPt HLp; omega⟩, ⟨_, _, _, _, hI43, rfl, hW43, hS43, hE40_92, hE40_93, fun j g1 g2 g3 g4 g5 => ((hO43 j (by omega) (by omega) (by omega)).trans (u8 j (by omega) (by omega) (by omega) (by omega) (by omega)))⟩⟩
        · refine v_aload_n C 0 dX9_isKept_153 rfl rfl ?_
          refine v_iload C 6 dX9_isKept_154 rfl ?_
          refine v_iload_n C 3 dX9_isKept_156 rfl rfl ?_
          refine v_cVi C dX9_isKept_157 lX9_256 mX9_wallOf 68 (by omega) e6843 (by decide) rfl (y_wallOf l G n ad _ hn hW43 hR43 hS43 hT43 hV (zz := (x.toInt / 10).toNat) (by unfold okLW at hlw; omega) x14 m (by have := hx14; unfold okLW at hlw; omega) (by have := hm; have := hne0 (by omega); omega)) ⟨by decide, by decide⟩ rfl (Nat.le_of_ble_eq_true rfl) ⟨Nat.zero_le _, Nat.zero_le _⟩ (fun r45 E46 hq47 => ?_)
          obtain ⟨hq47, hF48⟩ := hq47
          have hbr45 := lw_bd (T := TT (x.toInt / 10).toNat) (m := m.toInt) hP
          obtain ⟨im49, hi49, hW49, hS49, hO49⟩ := id hF48
          have hR49 := hR43.go (fun j h1 h2 => hO49 j (by omega) (by omega) (by omega))
          have hT49 : ∀ z, z < 5 → TT z = TTz ic md rf rto ron rat rbe rtd rm fv (im49 18).toInt z := fun z hz => by rw [hi49 18 (by decide)]; exact hT43 z hz
          have hI49 : ∀ q, q ≠ 7 → q ≠ 35 → im49 q = im q := fun q g1 g2 => (hi49 q g1).trans (hI43 q g1 g2)
          have hE46_92 := (hO49 92 (by decide) (by decide) (by decide)).trans hE40_92
          have hE46_93 := (hO49 93 (by decide) (by decide) (by decide)).trans hE40_93
          have e6849 := hW49.2.2.1
          refine b_if_lt C 201 dX9_isKept_160 (by decide) hq47 (fun c50 => ?_) (fun c50 => ?_)
          · refine v_iconst (v := 0) C dX9_isKept_201 (by decide) ?_
            exact v_ret C dX9_isKept_202 rfl rfl ⟨Or.inr ⟨rfl, by unfold KPt HLp; omega⟩, ⟨_, _, _, _, hI49, rfl, hW49, hS49, hE46_92, hE46_93, fun j g1 g2 g3 g4 g5 => ((hO49 j (by omega) (by omega) (by omega)).trans ((hO43 j (by omega) (by omega) (by omega)).trans (u8 j (by omega) (by omega) (by omega) (by omega) (by omega))))⟩⟩
          · refine v_aload_n C 0 dX9_isKept_163 rfl rfl ?_
            refine v_aload_n C 0 dX9_isKept_164 rfl rfl ?_
            refine v_iload C 6 dX9_isKept_165 rfl ?_
            refine v_iload C 4 dX9_isKept_167 rfl ?_
            refine v_cVi C dX9_isKept_169 lX9_256 mX9_wallOf 68 (by omega) e6849 (by decide) rfl (y_wallOf l G n ad _ hn hW49 hR49 hS49 hT49 hV (zz := (x.toInt / 10).toNat) (by unfold okLW at hlw; omega) x14 (vl1 0) (by have := hx14; unfold okLW at hlw; omega) (by have := hv9; have := hne0 (by omega); omega)) ⟨by decide, by decide⟩ rfl (Nat.le_of_ble_eq_true rfl) ⟨Nat.zero_le _, Nat.zero_le _⟩ (fun r51 E52 hq53 => ?_)
            obtain ⟨hq53, hF54⟩ := hq53
            rw [hv9] at hq53
            have hbr51 := lw_bd (T := TT (x.toInt / 10).toNat) (m := (RUv ic md TT fo fx fy N m.toInt)) hP
            obtain ⟨im55, hi55, hW55, hS55, hO55⟩ := id hF54
            have hR55 := hR49.go (fun j h1 h2 => hO55 j (by omega) (by omega) (by omega))
            have hT55 : ∀ z, z < 5 → TT z = TTz ic md rf rto ron rat rbe rtd rm fv (im55 18).toInt z := fun z hz => by rw [hi55 18 (by decide)]; exact hT49 z hz
            have hI55 : ∀ q, q ≠ 7 → q ≠ 35 → im55 q = im q := fun q g1 g2 => (hi55 q g1).trans (hI49 q g1 g2)
            have hE52_92 := (hO55 92 (by decide) (by decide) (by decide)).trans hE46_92
            have hE52_93 := (hO55 93 (by decide) (by decide) (by decide)).trans hE46_93
            have e6855 := hW55.2.2.1
            refine v_sipush (v := 1440) C dX9_isKept_172 (by decide) ?_
            refine v_idiv C dX9_isKept_175 (by decide) ?_
            refine v_top (fun x56 ex56 => ?_)
            have hx56 : x56.toInt = ((lwF ic md (TT (x.toInt / 10).toNat) (RUv ic md TT fo fx fy N m.toInt)) / 1440) := by rw [ex56]; exact ti_div hq53 (show (1440 : Int32).toInt = 1440 by decide) (by omega) (by omega)
            refine v_cVp C dX9_isKept_176 lX9_149 mX9_weekday 68 (by omega) e6855 (by decide) rfl (d_weekday l G n ad _ hn hW55 x56 (by omega) (by omega)) ⟨by decide, by decide⟩ rfl (Nat.le_of_ble_eq_true rfl) ⟨Nat.zero_le _, Nat.zero_le _⟩ (fun r57 hp58 => ?_)
            rw [hx56] at hp58
            refine v_aload_n C 0 dX9_isKept_179 rfl rfl ?_
            refine v_aload_n C 0 dX9_isKept_180 rfl rfl ?_
            refine v_iload C 6 dX9_isKept_181 rfl ?_
            refine v_iload_n C 3 dX9_isKept_183 rfl rfl ?_
            refine v_cVi C dX9_isKept_184 lX9_256 mX9_wallOf 68 (by omega) e6855 (by decide) rfl (y_wallOf l G n ad _ hn hW55 hR55 hS55 hT55 hV (zz := (x.toInt / 10).toNat) (by unfold okLW at hlw; omega) x14 m (by have := hx14; unfold okLW at hlw; omega) (by have := hm; have := hne0 (by omega); omega)) ⟨by decide, by decide⟩ rfl (Nat.le_of_ble_eq_true rfl) ⟨Nat.zero_le _, Nat.zero_le _⟩ (fun r59 E60 hq61 => ?_)
            obtain ⟨hq61, hF62⟩ := hq61
            have hbr59 := lw_bd (T := TT (x.toInt / 10).toNat) (m := m.toInt) hP
            obtain ⟨im63, hi63, hW63, hS63, hO63⟩ := id hF62
            have hR63 := hR55.go (fun j h1 h2 => hO63 j (by omega) (by omega) (by omega))
            have hT63 : ∀ z, z < 5 → TT z = TTz ic md rf rto ron rat rbe rtd rm fv (im63 18).toInt z := fun z hz => by rw [hi63 18 (by decide)]; exact hT55 z hz
            have hI63 : ∀ q, q ≠ 7 → q ≠ 35 → im63 q = im q := fun q g1 g2 => (hi63 q g1).trans (hI55 q g1 g2)
            have hE60_92 := (hO63 92 (by decide) (by decide) (by decide)).trans hE52_92
            have hE60_93 := (hO63 93 (by decide) (by decide) (by decide)).trans hE52_93
            have e6863 := hW63.2.2.1
            refine v_sipush (v := 1440) C dX9_isKept_187 (by decide) ?_
            refine v_idiv C dX9_isKept_190 (by decide) ?_
            refine v_top (fun x64 ex64 => ?_)
            have hx64 : x64.toInt = ((lwF ic md (TT (x.toInt / 10).toNat) m.toInt) / 1440) := by rw [ex64]; exact ti_div hq61 (show (1440 : Int32).toInt = 1440 by decide) (by omega) (by omega)
            refine v_cVp C dX9_isKept_191 lX9_149 mX9_weekday 68 (by omega) e6863 (by decide) rfl (d_weekday l G n ad _ hn hW63 x64 (by omega) (by omega)) ⟨by decide, by decide⟩ rfl (Nat.le_of_ble_eq_true rfl) ⟨Nat.zero_le _, Nat.zero_le _⟩ (fun r65 hp66 => ?_)
            rw [hx64] at hp66
            refine b_icmp_ne C 201 dX9_isKept_194 (by decide) hp58 hp66 (fun c67 => ?_) (fun c67 => ?_)
            · refine v_iconst (v := 0) C dX9_isKept_201 (by decide) ?_
              exact v_ret C dX9_isKept_202 rfl rfl ⟨Or.inr ⟨rfl, by unfold KPt HLp; omega⟩, ⟨_, _, _, _, hI63, rfl, hW63, hS63, hE60_92, hE60_93, fun j g1 g2 g3 g4 g5 => ((hO63 j (by omega) (by omega) (by omega)).trans ((hO55 j (by omega) (by omega) (by omega)).trans ((hO49 j (by omega) (by omega) (by omega)).trans ((hO43 j (by omega) (by omega) (by omega)).trans (u8 j (by omega) (by omega) (by omega) (by omega) (by omega))))))⟩⟩
            · refine v_iconst (v := 1) C dX9_isKept_197 (by decide) ?_
              refine v_goto C 202 dX9_isKept_198 (by decide) ?_
              exact v_ret C dX9_isKept_202 rfl rfl ⟨Or.inl ⟨rfl, by unfold KPt HLp; omega⟩, ⟨_, _, _, _, hI63, rfl, hW63, hS63, hE60_92, hE60_93, fun j g1 g2 g3 g4 g5 => ((hO63 j (by omega) (by omega) (by omega)).trans ((hO55 j (by omega) (by omega) (by omega)).trans ((hO49 j (by omega) (by omega) (by omega)).trans ((hO43 j (by omega) (by omega) (by omega)).trans (u8 j (by omega) (by omega) (by omega) (by omega) (by omega))))))⟩⟩
      · refine v_tableIn (off := 159) C 203 dX9_isKept_44 (by omega) (by omega) (by rw [q16v, q16]; rfl) (by decide) ?_
        refine v_aload_n C 0 dX9_isKept_203 rfl rfl ?_
        refine v_getr C 68 dX9_isKept_204 fX9_97 (by omega) e68a rfl rfl ?_
        refine v_iconst (v := 0) C dX9_isKept_207 (by decide) ?_
        refine v_ald (v := kd1 0) C 92 dX9_isKept_208 (by omega) u6 (ti_in (show (0 : Int32).toInt = 0 by decide) (by omega) (by omega)) (congrArg kd1 (by decide)) ?_
        refine v_iconst (v := 3) C dX9_isKept_209 (by decide) ?_
        refine b_icmp_ne C 223 dX9_isKept_210 (by decide) hKd (show (3 : Int32).toInt = 3 by decide) (fun c68 => ?_) (fun c68 => ?_)
        · refine v_iconst (v := 0) C dX9_isKept_223 (by decide) ?_
          exact v_ret C dX9_isKept_224 rfl rfl ⟨Or.inr ⟨rfl, by unfold KPt HLp; omega⟩, ⟨_, _, _, _, u1, rfl, u4, u5, u6, u7, fun j g1 g2 g3 g4 g5 => (u8 j (by omega) (by omega) (by omega) (by omega) (by omega))⟩⟩
        · refine v_iload C 4 dX9_isKept_213 rfl ?_
          refine v_iload_n C 2 dX9_isKept_215 rfl rfl ?_
          refine b_icmp_lt C 223 dX9_isKept_216 (by decide) hv9 (rfl : Int32.toInt v = _) (fun c69 => ?_) (fun c69 => ?_)
          · refine v_iconst (v := 0) C dX9_isKept_223 (by decide) ?_
            exact v_ret C dX9_isKept_224 rfl rfl ⟨Or.inr ⟨rfl, by unfold KPt HLp; omega⟩, ⟨_, _, _, _, u1, rfl, u4, u5, u6, u7, fun j g1 g2 g3 g4 g5 => (u8 j (by omega) (by omega) (by omega) (by omega) (by omega))⟩⟩
          · refine v_iconst (v := 1) C dX9_isKept_219 (by decide) ?_
            refine v_goto C 224 dX9_isKept_220 (by decide) ?_
            exact v_ret C dX9_isKept_224 rfl rfl ⟨Or.inl ⟨rfl, by unfold KPt HLp; omega⟩, ⟨_, _, _, _, u1, rfl, u4, u5, u6, u7, fun j g1 g2 g3 g4 g5 => (u8 j (by omega) (by omega) (by omega) (by omega) (by omega))⟩⟩
      · refine v_tableOut C 225 dX9_isKept_44 (by omega) (by decide) ?_
        refine v_iconst (v := 1) C dX9_isKept_225 (by decide) ?_
        exact v_ret C dX9_isKept_226 rfl rfl ⟨Or.inl ⟨rfl, by unfold KPt HLp; omega⟩, ⟨_, _, _, _, u1, rfl, u4, u5, u6, u7, fun j g1 g2 g3 g4 g5 => (u8 j (by omega) (by omega) (by omega) (by omega) (by omega))⟩⟩
  · obtain ⟨im1, u1, u3, u4, u5, u6, u7, u8⟩ := id hD
    have e68a := u4.2.2.1
    have hR1 := hR.go (fun j g1 g2 => u8 j (by omega) (by omega) (by omega) (by omega) (by omega))
    have hT1 : ∀ z, z < 5 → TT z = TTz ic md rf rto ron rat rbe rtd rm fv (im1 18).toInt z := fun z hz => by rw [u1 18 (by decide) (by decide)]; exact hTT z hz
    have hRU := RU_none hRV (Nat.le_refl N)
    refine b_if_ne C 10 dX9_isKept_5 (by decide) (show (0 : Int32).toInt = 0 by decide) (fun c70 => absurd c70 (by decide)) (fun c70 => ?_)
    refine v_iconst (v := 0) C dX9_isKept_8 (by decide) ?_
    exact v_ret C dX9_isKept_9 rfl rfl ⟨Or.inr ⟨rfl, fun q => q.1 hRU⟩, ⟨_, _, _, _, u1, rfl, u4, u5, u6, u7, fun j g1 g2 g3 g4 g5 => (u8 j (by omega) (by omega) (by omega) (by omega) (by omega))⟩⟩

theorem RV_cg {ic md : Nat → Int32} {TT : Nat → TST} {fo fx fy go gx gy : Nat → Int32} {m : Int} {n : Nat} (h : ∀ j, j < n → fo j = go j ∧ fx j = gx j ∧ fy j = gy j) : ∀ k, k ≤ n → RVf ic md TT fo fx fy m k = RVf ic md TT go gx gy m k := by
  intro k
  induction k with
  | zero => intro _; rfl
  | succ k ih =>
    intro hk
    show (match RSf fo k, RSf fo (k + 1), RVf ic md TT fo fx fy m k with
      | some s, some s1, some V => VSf ic md TT (fo k).toInt (fx k).toInt (fy k).toInt m s.1 s.2 (s1.2 (s1.1 - 1).toNat).toInt V
      | _, _, _ => none) = (match RSf go k, RSf go (k + 1), RVf ic md TT go gx gy m k with
      | some s, some s1, some V => VSf ic md TT (go k).toInt (gx k).toInt (gy k).toInt m s.1 s.2 (s1.2 (s1.1 - 1).toNat).toInt V
      | _, _, _ => none)
    rw [RS_congr (fun j hj => (h j hj).1) k (by omega), RS_congr (fun j hj => (h j hj).1) (k + 1) hk, ih (by omega), (h k (by omega)).1, (h k (by omega)).2.1, (h k (by omega)).2.2]
theorem RU_cg {ic md : Nat → Int32} {TT : Nat → TST} {fo fx fy go gx gy : Nat → Int32} {m : Int} {n : Nat} (h : ∀ j, j < n → fo j = go j ∧ fx j = gx j ∧ fy j = gy j) : RUv ic md TT fo fx fy n m = RUv ic md TT go gx gy n m := by
  unfold RUv
  rw [RV_cg h n (Nat.le_refl n)]
theorem KPt_cg {ic md : Nat → Int32} {TT : Nat → TST} {fo fx fy go gx gy : Nat → Int32} {law v m : Int} {n : Nat} (h : ∀ j, j < n → fo j = go j ∧ fx j = gx j ∧ fy j = gy j) : KPt ic md TT fo fx fy n law v m ↔ KPt ic md TT go gx gy n law v m := by
  unfold KPt
  rw [RU_cg h, KD_congr (fun j hj => (h j hj).1)]

set_option maxRecDepth 20000 in
theorem y_run (l : Launch) (G : Gl) (n : Nat) (ad : Nat → Nat) (E : Nat → va_E) (hn : 98 ≤ n) {im ic md : Nat → Int32} (hW : MCal G ad E im ic md) {rf rto ron rat rbe rtd rm fv : Nat → Int32} (hR : ZMr G E rf rto ron rat rbe rtd rm fv) {TT : Nat → TST} (hS : ZMs G E 5 TT) (hTT : ∀ z, z < 5 → TT z = TTz ic md rf rto ron rat rbe rtd rm fv (im 18).toInt z) (hV : ∀ z, z < 5 → RZv ic rf rto ron rat rbe rtd rm fv z) {gop gx gy fl o0 x0 y0 : Nat → Int32} (h85 : E 85 = aI G 60 gop) (h86 : E 86 = aI G 60 gx) (h87 : E 87 = aI G 60 gy) (h88 : E 88 = aI G 6 fl) (h89 : E 89 = aI G 10 o0) (h90 : E 90 = aI G 10 x0) (h91 : E 91 = aI G 10 y0) {kd vl : Nat → Int32} (h92 : E 92 = aI G 8 kd) (h93 : E 93 = aI G 8 vl) {k : Nat} (hk : (im 16).toInt = (k : Int)) (hk5 : k ≤ 5) (hbl : ∀ i, 0 ≤ (fl i).toInt ∧ (fl i).toInt ≤ 10) (hOP : OPg gop) (hLN : LOK k fl gop gx gy) (p : Int32) (m : Int32) : CtI l G yX9_run cX9_run 3 .int 8 197 (n) ad E [.ref (ad 68), .int p, .int m] (fun r E' => RNp ic md TT fl gop gx gy p.toInt m.toInt r.toInt) := by
  refine CtI.of (by decide) (Nat.le_of_ble_eq_true rfl) (fun X A C => ?_)
  refine v_sub (lv' := [(0, .ref (ad 68)), (1, .int p), (2, .int m)]) [0, 1, 2] rfl ?_
  have hP := hW.2.1
  have h68 := hW.2.2.1
  have hcy := cal_y hP
  have h8T : ∀ z, z < 5 → (TT z).1 ≤ 800 := fun z hz => by rw [hTT z hz]; exact (TTz_ok hP (hV z hz)).2
  have hokT : ∀ z, z < 5 → okT 69300000 (TT z) := fun z hz => by rw [hTT z hz]; exact (TTz_ok hP (hV z hz)).1
  refine v_iload_n C 1 dX9_run_0 rfl rfl ?_
  refine v_cSp C dX9_run_1 lX9_194 mX9_isProgram (y_isProgram l G _ ad _  p) ⟨by decide, by decide⟩ rfl (Nat.le_of_ble_eq_true rfl) ⟨Nat.zero_le _, Nat.zero_le _⟩ (fun r1 hp2 => ?_)
  rcases hp2 with ⟨rfl, hp2⟩ | ⟨rfl, hp2⟩
  · refine b_if_eq C 14 dX9_run_4 (by decide) (show (1 : Int32).toInt = 1 by decide) (fun c3 => absurd c3 (by decide)) (fun c3 => ?_)
    refine v_iload_n C 2 dX9_run_7 rfl rfl ?_
    refine v_cSp C dX9_run_8 lX9_179 mX9_isMoment (y_isMoment l G _ ad _  m) ⟨by decide, by decide⟩ rfl (Nat.le_of_ble_eq_true rfl) ⟨Nat.zero_le _, Nat.zero_le _⟩ (fun r4 hp5 => ?_)
    rcases hp5 with ⟨rfl, hp5⟩ | ⟨rfl, hp5⟩
    · refine b_if_ne C 17 dX9_run_11 (by decide) (show (1 : Int32).toInt = 1 by decide) (fun c6 => ?_) (fun c6 => absurd c6 (by decide))
      refine v_aload_n C 0 dX9_run_17 rfl rfl ?_
      refine v_iload_n C 1 dX9_run_18 rfl rfl ?_
      obtain ⟨pp, hpp0⟩ : ∃ q : Nat, p.toInt = (q : Int) := ⟨p.toInt.toNat, by omega⟩
      have hit : p.toInt.toNat = pp := by omega
      have hbi := hbl pp
      obtain ⟨N, hN⟩ : ∃ N : Nat, (fl pp).toInt = (N : Int) := ⟨(fl pp).toInt.toNat, by omega⟩
      have hNt : (fl pp).toInt.toNat = N := by omega
      refine v_cVv C dX9_run_19 lX9_219 mX9_take 68 (by omega) h68 (by decide) rfl (y_take l G n ad _ hn h68 h85 h86 h87 h88 h89 h90 h91 p hpp0 (by omega) hN (by omega)) ⟨by decide, by decide⟩ rfl (Nat.le_of_ble_eq_true rfl) ⟨Nat.zero_le _, Nat.zero_le _⟩ (fun E7 hq8 => ?_)
      obtain ⟨fo, fx, fy, t68, t89, t90, t91, hag, hOt⟩ := hq8
      have t92 := (hOt 92 (by decide) (by decide) (by decide) (by decide)).trans h92
      have t93 := (hOt 93 (by decide) (by decide) (by decide) (by decide)).trans h93
      have hWt := hW.same (im1 := va_up im 32 (fl pp)) (fun q hq => if_neg (by omega)) t68 (hOt 69 (by decide) (by decide) (by decide) (by decide)) (hOt 70 (by decide) (by decide) (by decide) (by decide))
      have hRt := hR.go (fun j g1 g2 => hOt j (by omega) (by omega) (by omega) (by omega))
      have hSt := hS.go (fun j g1 g2 => hOt j (by omega) (by omega) (by omega) (by omega))
      have hop : ∀ j, j < N → 0 ≤ (fo j).toInt ∧ (fo j).toInt ≤ 11 := fun j hj => by rw [(hag j hj).1]; exact hOP _ (by omega)
      have hln : ∀ j, j < N → okLn (k : Int) (fo j).toInt (fx j).toInt (fy j).toInt := fun j hj => by rw [(hag j hj).1, (hag j hj).2.1, (hag j hj).2.2]; exact hLN pp (by omega) j (by omega)
      have hcg : ∀ j, j < N → fo j = fP gop pp j := fun j hj => (hag j hj).1
      have hnt : (va_up im 32 (fl pp) 32).toInt = (N : Int) := hN
      refine v_aload_n C 0 dX9_run_22 rfl rfl ?_
      refine v_cVi C dX9_run_23 lX9_222 mX9_mixOf 68 (by omega) t68 (by decide) rfl (m_mixOf l G n ad _ hn t68 t92 t89 (by omega) (by omega) (fun j hj => hop j (by omega))) ⟨by decide, by decide⟩ rfl (Nat.le_of_ble_eq_true rfl) ⟨Nat.zero_le _, Nat.zero_le _⟩ (fun r9 E10 hq11 => ?_)
      obtain ⟨hmx, im5, kd5, m68, hi5, -, -, m92, -, hOm⟩ := hq11
      rw [hnt, show ((N : Nat) : Int).toNat = N by omega] at hmx
      have hmi := MX_iff (ops := fo) (n := N)
      have hmc : MIS fo N = MIS (fP gop pp) N := MIS_congr hcg
      have m89 := (hOm 89 (by decide) (by decide)).trans t89
      have m90 := (hOm 90 (by decide) (by decide)).trans t90
      have m91 := (hOm 91 (by decide) (by decide)).trans t91
      have m93 := (hOm 93 (by decide) (by decide)).trans t93
      have hWm := hWt.same (fun q hq => hi5 q (by omega)) m68 (hOm 69 (by decide) (by decide)) (hOm 70 (by decide) (by decide))
      have hRm := hRt.go (fun j g1 g2 => hOm j (by omega) (by omega))
      have hSm := hSt.go (fun j g1 g2 => hOm j (by omega) (by omega))
      have hTm : ∀ z, z < 5 → TT z = TTz ic md rf rto ron rat rbe rtd rm fv (im5 18).toInt z := fun z hz => by rw [hi5 18 (by decide)]; exact hTT z hz
      have hnm : (im5 32).toInt = (N : Int) := by rw [hi5 32 (by decide)]; exact hnt
      refine v_bipush (v := (-6)) C dX9_run_26 (by decide) ?_
      refine b_icmp_ne C 48 dX9_run_28 (by decide) hmx (show ((-6) : Int32).toInt = (-6) by decide) (fun c12 => ?_) (fun c12 => ?_)
      · refine v_ldc C dX9_run_48 kX9_252 ?_
        exact v_ret C dX9_run_50 rfl rfl (Or.inl ⟨(fun q => by obtain ⟨q1, q2, q3⟩ := q; rw [hit, hNt, ← hmc] at q3; have := hmi.mpr q3; omega), by decide⟩)
      · obtain ⟨Kw, hwh⟩ := MIS_whole (ops := fo) (n := N) (hmi.mp (by omega))
        have hm : 0 ≤ m.toInt ∧ m.toInt < 60000000 := by omega
        refine v_aload_n C 0 dX9_run_31 rfl rfl ?_
        refine v_iload_n C 2 dX9_run_32 rfl rfl ?_
        refine v_cVi C dX9_run_33 lX9_253 mX9_runs 68 (by omega) m68 (by decide) rfl (y_runs l G n ad _ hn hWm hRm hSm hTm hV m92 m93 m89 m90 m91 hk5 (by omega) hnm hop hln hwh m hm) ⟨by decide, by decide⟩ rfl (Nat.le_of_ble_eq_true rfl) ⟨Nat.zero_le _, Nat.zero_le _⟩ (fun r13 E14 hq15 => ?_)
        have hcgr := RU_cg (ic := ic) (md := md) (TT := TT) (m := m.toInt) (go := fP gop pp) (gx := fP gx pp) (gy := fP gy pp) hag
        rcases hq15 with ⟨rfl, V1, kd1, vl1, hRV, hv0, hk0, im1, u1, u3, u4, u5, u6, u7, u8⟩ | ⟨rfl, hRV, g1, kd1, vl1, hD⟩
        · have e68a := u4.2.2.1
          have hres : (vl1 0).toInt = RUv ic md TT (fP gop pp) (fP gx pp) (fP gy pp) N m.toInt := by rw [hv0, ← hcgr]; exact (RU_some hRV).symm
          refine b_if_eq C 48 dX9_run_36 (by decide) (show (1 : Int32).toInt = 1 by decide) (fun c16 => absurd c16 (by decide)) (fun c16 => ?_)
          refine v_aload_n C 0 dX9_run_39 rfl rfl ?_
          refine v_getr C 68 dX9_run_40 fX9_100 (by omega) e68a rfl rfl ?_
          refine v_iconst (v := 0) C dX9_run_43 (by decide) ?_
          refine v_ald (v := vl1 0) C 93 dX9_run_44 (by omega) u7 (ti_in (show (0 : Int32).toInt = 0 by decide) (by omega) (by omega)) (congrArg vl1 (by decide)) ?_
          refine v_goto C 50 dX9_run_45 (by decide) ?_
          exact v_ret C dX9_run_50 rfl rfl (Or.inr ⟨(by unfold okRN; rw [hit, hNt, ← hmc]; exact ⟨by omega, hm, hmi.mp (by omega)⟩), by rw [hit, hNt]; exact hres⟩)
        · have hres : (-2000000000 : Int) = RUv ic md TT (fP gop pp) (fP gx pp) (fP gy pp) N m.toInt := by rw [← hcgr]; exact (RU_none hRV (Nat.le_refl N)).symm
          refine b_if_eq C 48 dX9_run_36 (by decide) (show (0 : Int32).toInt = 0 by decide) (fun c17 => ?_) (fun c17 => absurd c17 (by decide))
          refine v_ldc C dX9_run_48 kX9_252 ?_
          exact v_ret C dX9_run_50 rfl rfl (Or.inr ⟨(by unfold okRN; rw [hit, hNt, ← hmc]; exact ⟨by omega, hm, hmi.mp (by omega)⟩), by rw [hit, hNt]; exact (show (-2000000000 : Int32).toInt = -2000000000 by decide).trans hres⟩)
    · refine b_if_ne C 17 dX9_run_11 (by decide) (show (0 : Int32).toInt = 0 by decide) (fun c18 => absurd c18 (by decide)) (fun c18 => ?_)
      refine v_ldc C dX9_run_14 kX9_252 ?_
      exact v_ret C dX9_run_16 rfl rfl (Or.inl ⟨(fun q => by obtain ⟨q1, q2, q3⟩ := q; omega), by decide⟩)
  · refine b_if_eq C 14 dX9_run_4 (by decide) (show (0 : Int32).toInt = 0 by decide) (fun c19 => ?_) (fun c19 => absurd c19 (by decide))
    refine v_ldc C dX9_run_14 kX9_252 ?_
    exact v_ret C dX9_run_16 rfl rfl (Or.inl ⟨(fun q => by obtain ⟨q1, q2, q3⟩ := q; omega), by decide⟩)

set_option maxRecDepth 20000 in
theorem y_keeps (l : Launch) (G : Gl) (n : Nat) (ad : Nat → Nat) (E : Nat → va_E) (hn : 98 ≤ n) {im ic md : Nat → Int32} (hW : MCal G ad E im ic md) {rf rto ron rat rbe rtd rm fv : Nat → Int32} (hR : ZMr G E rf rto ron rat rbe rtd rm fv) {TT : Nat → TST} (hS : ZMs G E 5 TT) (hTT : ∀ z, z < 5 → TT z = TTz ic md rf rto ron rat rbe rtd rm fv (im 18).toInt z) (hV : ∀ z, z < 5 → RZv ic rf rto ron rat rbe rtd rm fv z) {gop gx gy fl o0 x0 y0 : Nat → Int32} (h85 : E 85 = aI G 60 gop) (h86 : E 86 = aI G 60 gx) (h87 : E 87 = aI G 60 gy) (h88 : E 88 = aI G 6 fl) (h89 : E 89 = aI G 10 o0) (h90 : E 90 = aI G 10 x0) (h91 : E 91 = aI G 10 y0) {kd vl : Nat → Int32} (h92 : E 92 = aI G 8 kd) (h93 : E 93 = aI G 8 vl) {k : Nat} (hk : (im 16).toInt = (k : Int)) (hk5 : k ≤ 5) (hbl : ∀ i, 0 ≤ (fl i).toInt ∧ (fl i).toInt ≤ 10) (hOP : OPg gop) (hLN : LOK k fl gop gx gy) (p : Int32) (x : Int32) (v : Int32) (m : Int32) : CtI l G yX9_keeps cX9_keeps 5 .int 9 223 (n) ad E [.ref (ad 68), .int p, .int x, .int v, .int m] (fun r E' => KPp k ic md TT fl gop gx gy p.toInt x.toInt v.toInt m.toInt r.toInt) := by
  refine CtI.of (by decide) (Nat.le_of_ble_eq_true rfl) (fun X A C => ?_)
  refine v_sub (lv' := [(0, .ref (ad 68)), (1, .int p), (2, .int x), (3, .int v), (4, .int m)]) [0, 1, 2, 3, 4] rfl ?_
  have hP := hW.2.1
  have h68 := hW.2.2.1
  have hcy := cal_y hP
  have h8T : ∀ z, z < 5 → (TT z).1 ≤ 800 := fun z hz => by rw [hTT z hz]; exact (TTz_ok hP (hV z hz)).2
  have hokT : ∀ z, z < 5 → okT 69300000 (TT z) := fun z hz => by rw [hTT z hz]; exact (TTz_ok hP (hV z hz)).1
  refine v_iload_n C 1 dX9_keeps_0 rfl rfl ?_
  refine v_cSp C dX9_keeps_1 lX9_194 mX9_isProgram (y_isProgram l G _ ad _  p) ⟨by decide, by decide⟩ rfl (Nat.le_of_ble_eq_true rfl) ⟨Nat.zero_le _, Nat.zero_le _⟩ (fun r1 hp2 => ?_)
  rcases hp2 with ⟨rfl, hp2⟩ | ⟨rfl, hp2⟩
  · refine b_if_eq C 24 dX9_keeps_4 (by decide) (show (1 : Int32).toInt = 1 by decide) (fun c3 => absurd c3 (by decide)) (fun c3 => ?_)
    refine v_aload_n C 0 dX9_keeps_7 rfl rfl ?_
    refine v_iload_n C 2 dX9_keeps_8 rfl rfl ?_
    refine v_iload_n C 3 dX9_keeps_9 rfl rfl ?_
    refine v_cVp C dX9_keeps_10 lX9_259 mX9_isLaw 68 (by omega) h68 (by decide) rfl (y_isLaw l G n ad _ hn h68 hk x v) ⟨by decide, by decide⟩ rfl (Nat.le_of_ble_eq_true rfl) ⟨Nat.zero_le _, Nat.zero_le _⟩ (fun r4 hp5 => ?_)
    rcases hp5 with ⟨rfl, hlw⟩ | ⟨rfl, hlw⟩
    · refine b_if_eq C 24 dX9_keeps_13 (by decide) (show (1 : Int32).toInt = 1 by decide) (fun c6 => absurd c6 (by decide)) (fun c6 => ?_)
      refine v_iload C 4 dX9_keeps_16 rfl ?_
      refine v_cSp C dX9_keeps_18 lX9_179 mX9_isMoment (y_isMoment l G _ ad _  m) ⟨by decide, by decide⟩ rfl (Nat.le_of_ble_eq_true rfl) ⟨Nat.zero_le _, Nat.zero_le _⟩ (fun r7 hp8 => ?_)
      rcases hp8 with ⟨rfl, hp8⟩ | ⟨rfl, hp8⟩
      · refine b_if_ne C 26 dX9_keeps_21 (by decide) (show (1 : Int32).toInt = 1 by decide) (fun c9 => ?_) (fun c9 => absurd c9 (by decide))
        refine v_aload_n C 0 dX9_keeps_26 rfl rfl ?_
        refine v_iload_n C 1 dX9_keeps_27 rfl rfl ?_
        obtain ⟨pp, hpp0⟩ : ∃ q : Nat, p.toInt = (q : Int) := ⟨p.toInt.toNat, by omega⟩
        have hit : p.toInt.toNat = pp := by omega
        have hbi := hbl pp
        obtain ⟨N, hN⟩ : ∃ N : Nat, (fl pp).toInt = (N : Int) := ⟨(fl pp).toInt.toNat, by omega⟩
        have hNt : (fl pp).toInt.toNat = N := by omega
        refine v_cVv C dX9_keeps_28 lX9_219 mX9_take 68 (by omega) h68 (by decide) rfl (y_take l G n ad _ hn h68 h85 h86 h87 h88 h89 h90 h91 p hpp0 (by omega) hN (by omega)) ⟨by decide, by decide⟩ rfl (Nat.le_of_ble_eq_true rfl) ⟨Nat.zero_le _, Nat.zero_le _⟩ (fun E10 hq11 => ?_)
        obtain ⟨fo, fx, fy, t68, t89, t90, t91, hag, hOt⟩ := hq11
        have t92 := (hOt 92 (by decide) (by decide) (by decide) (by decide)).trans h92
        have t93 := (hOt 93 (by decide) (by decide) (by decide) (by decide)).trans h93
        have hWt := hW.same (im1 := va_up im 32 (fl pp)) (fun q hq => if_neg (by omega)) t68 (hOt 69 (by decide) (by decide) (by decide) (by decide)) (hOt 70 (by decide) (by decide) (by decide) (by decide))
        have hRt := hR.go (fun j g1 g2 => hOt j (by omega) (by omega) (by omega) (by omega))
        have hSt := hS.go (fun j g1 g2 => hOt j (by omega) (by omega) (by omega) (by omega))
        have hop : ∀ j, j < N → 0 ≤ (fo j).toInt ∧ (fo j).toInt ≤ 11 := fun j hj => by rw [(hag j hj).1]; exact hOP _ (by omega)
        have hln : ∀ j, j < N → okLn (k : Int) (fo j).toInt (fx j).toInt (fy j).toInt := fun j hj => by rw [(hag j hj).1, (hag j hj).2.1, (hag j hj).2.2]; exact hLN pp (by omega) j (by omega)
        have hcg : ∀ j, j < N → fo j = fP gop pp j := fun j hj => (hag j hj).1
        have hnt : (va_up im 32 (fl pp) 32).toInt = (N : Int) := hN
        refine v_aload_n C 0 dX9_keeps_31 rfl rfl ?_
        refine v_cVi C dX9_keeps_32 lX9_222 mX9_mixOf 68 (by omega) t68 (by decide) rfl (m_mixOf l G n ad _ hn t68 t92 t89 (by omega) (by omega) (fun j hj => hop j (by omega))) ⟨by decide, by decide⟩ rfl (Nat.le_of_ble_eq_true rfl) ⟨Nat.zero_le _, Nat.zero_le _⟩ (fun r12 E13 hq14 => ?_)
        obtain ⟨hmx, im5, kd5, m68, hi5, -, -, m92, -, hOm⟩ := hq14
        rw [hnt, show ((N : Nat) : Int).toNat = N by omega] at hmx
        have hmi := MX_iff (ops := fo) (n := N)
        have hmc : MIS fo N = MIS (fP gop pp) N := MIS_congr hcg
        have m89 := (hOm 89 (by decide) (by decide)).trans t89
        have m90 := (hOm 90 (by decide) (by decide)).trans t90
        have m91 := (hOm 91 (by decide) (by decide)).trans t91
        have m93 := (hOm 93 (by decide) (by decide)).trans t93
        have hWm := hWt.same (fun q hq => hi5 q (by omega)) m68 (hOm 69 (by decide) (by decide)) (hOm 70 (by decide) (by decide))
        have hRm := hRt.go (fun j g1 g2 => hOm j (by omega) (by omega))
        have hSm := hSt.go (fun j g1 g2 => hOm j (by omega) (by omega))
        have hTm : ∀ z, z < 5 → TT z = TTz ic md rf rto ron rat rbe rtd rm fv (im5 18).toInt z := fun z hz => by rw [hi5 18 (by decide)]; exact hTT z hz
        have hnm : (im5 32).toInt = (N : Int) := by rw [hi5 32 (by decide)]; exact hnt
        refine v_bipush (v := (-6)) C dX9_keeps_35 (by decide) ?_
        refine b_icmp_eq C 45 dX9_keeps_37 (by decide) hmx (show ((-6) : Int32).toInt = (-6) by decide) (fun c15 => ?_) (fun c15 => ?_)
        · obtain ⟨Kw, hwh⟩ := MIS_whole (ops := fo) (n := N) (hmi.mp (by omega))
          have hm : 0 ≤ m.toInt ∧ m.toInt < 60000000 := by omega
          refine v_aload_n C 0 dX9_keeps_45 rfl rfl ?_
          refine v_iload_n C 2 dX9_keeps_46 rfl rfl ?_
          refine v_iload_n C 3 dX9_keeps_47 rfl rfl ?_
          refine v_iload C 4 dX9_keeps_48 rfl ?_
          refine v_cVi C dX9_keeps_50 lX9_262 mX9_isKept 68 (by omega) m68 (by decide) rfl (y_isKept l G n ad _ hn hWm hRm hSm hTm hV m92 m93 m89 m90 m91 hk5 (by omega) hnm hop hln hwh x v m hlw hm) ⟨by decide, by decide⟩ rfl (Nat.le_of_ble_eq_true rfl) ⟨Nat.zero_le _, Nat.zero_le _⟩ (fun r16 E17 hq18 => ?_)
          have hcgr := KPt_cg (ic := ic) (md := md) (TT := TT) (law := x.toInt) (v := v.toInt) (m := m.toInt) (go := fP gop pp) (gx := fP gx pp) (gy := fP gy pp) hag
          rw [hcgr] at hq18
          obtain ⟨hq18, -⟩ := hq18
          rcases hq18 with ⟨rfl, hkp⟩ | ⟨rfl, hkp⟩
          · refine b_if_eq C 60 dX9_keeps_53 (by decide) (show (1 : Int32).toInt = 1 by decide) (fun c19 => absurd c19 (by decide)) (fun c19 => ?_)
            refine v_iconst (v := 1) C dX9_keeps_56 (by decide) ?_
            refine v_goto C 61 dX9_keeps_57 (by decide) ?_
            exact v_ret C dX9_keeps_61 rfl rfl (Or.inr (Or.inr ⟨(by unfold okKP; exact ⟨by omega, hlw, by omega⟩), (by rw [hit, hNt, ← hmc]; exact hmi.mp (by omega)), (by rw [hit, hNt]; exact Or.inl ⟨hkp, by decide⟩)⟩))
          · refine b_if_eq C 60 dX9_keeps_53 (by decide) (show (0 : Int32).toInt = 0 by decide) (fun c20 => ?_) (fun c20 => absurd c20 (by decide))
            refine v_iconst (v := 0) C dX9_keeps_60 (by decide) ?_
            exact v_ret C dX9_keeps_61 rfl rfl (Or.inr (Or.inr ⟨(by unfold okKP; exact ⟨by omega, hlw, by omega⟩), (by rw [hit, hNt, ← hmc]; exact hmi.mp (by omega)), (by rw [hit, hNt]; exact Or.inr ⟨hkp, by decide⟩)⟩))
        · refine v_bipush (v := (-4)) C dX9_keeps_40 (by decide) ?_
          refine v_goto C 61 dX9_keeps_42 (by decide) ?_
          exact v_ret C dX9_keeps_61 rfl rfl (Or.inr (Or.inl ⟨(by unfold okKP; exact ⟨by omega, hlw, by omega⟩), (by rw [hit, hNt, ← hmc]; intro q; have := hmi.mpr q; omega), by decide⟩))
      · refine b_if_ne C 26 dX9_keeps_21 (by decide) (show (0 : Int32).toInt = 0 by decide) (fun c21 => absurd c21 (by decide)) (fun c21 => ?_)
        refine v_iconst (v := (-1)) C dX9_keeps_24 (by decide) ?_
        exact v_ret C dX9_keeps_25 rfl rfl (Or.inl ⟨(fun q => by obtain ⟨q1, q2, q3⟩ := q; first | exact absurd q2 hlw | omega), by decide⟩)
    · refine b_if_eq C 24 dX9_keeps_13 (by decide) (show (0 : Int32).toInt = 0 by decide) (fun c22 => ?_) (fun c22 => absurd c22 (by decide))
      refine v_iconst (v := (-1)) C dX9_keeps_24 (by decide) ?_
      exact v_ret C dX9_keeps_25 rfl rfl (Or.inl ⟨(fun q => by obtain ⟨q1, q2, q3⟩ := q; first | exact absurd q2 hlw | omega), by decide⟩)
  · refine b_if_eq C 24 dX9_keeps_4 (by decide) (show (0 : Int32).toInt = 0 by decide) (fun c23 => ?_) (fun c23 => absurd c23 (by decide))
    refine v_iconst (v := (-1)) C dX9_keeps_24 (by decide) ?_
    exact v_ret C dX9_keeps_25 rfl rfl (Or.inl ⟨(fun q => by obtain ⟨q1, q2, q3⟩ := q; first | exact absurd q2 hlw | omega), by decide⟩)

