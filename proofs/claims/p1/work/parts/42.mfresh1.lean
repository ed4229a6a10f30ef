set_option maxRecDepth 20000 in
theorem d_isMoment (l : Launch) (G : Gl) (n : Nat) (ad : Nat → Nat) (E : Nat → va_E) (m : Int32)  : CtI l G yX9_isMoment cX9_isMoment 1 .boolean 1 22 n ad E [.int m] (fun r E' => ((r = 1 ∧ (okMom m.toInt)) ∨ (r = 0 ∧ ¬ (okMom m.toInt))) ∧ E = E') := by
  refine CtI.of (by decide) (Nat.le_of_ble_eq_true rfl) (fun X A C => ?_)
  refine v_sub (lv' := [(0, .int m)]) [0] rfl ?_
  refine v_iload_n C 0 dX9_isMoment_0 rfl rfl ?_
  refine v_iconst (v := 0) C dX9_isMoment_1 (by decide) ?_
  refine v_ldc C dX9_isMoment_2 kX9_178 ?_
  refine v_cSp C dX9_isMoment_4 lX9_131 mX9_within (d_within l G n ad _ m 0 59999999) ⟨by decide, by decide⟩ rfl (Nat.le_of_ble_eq_true rfl) ⟨Nat.zero_le _, Nat.zero_le _⟩ (fun r1 hp2 => ?_)
  rw [(show (0 : Int32).toInt = 0 by decide)] at hp2
  rw [(show (59999999 : Int32).toInt = 59999999 by decide)] at hp2
  rcases hp2 with ⟨rfl, hp2⟩ | ⟨rfl, hp2⟩
  · exact v_ret C dX9_isMoment_7 rfl rfl ⟨Or.inl ⟨rfl, by unfold okMom; omega⟩, rfl⟩
  · exact v_ret C dX9_isMoment_7 rfl rfl ⟨Or.inr ⟨rfl, by unfold okMom; omega⟩, rfl⟩

set_option maxRecDepth 20000 in
theorem d_isProgram (l : Launch) (G : Gl) (n : Nat) (ad : Nat → Nat) (E : Nat → va_E) (p : Int32)  : CtI l G yX9_isProgram cX9_isProgram 1 .boolean 1 22 n ad E [.int p] (fun r E' => ((r = 1 ∧ (okPr p.toInt)) ∨ (r = 0 ∧ ¬ (okPr p.toInt))) ∧ E = E') := by
  refine CtI.of (by decide) (Nat.le_of_ble_eq_true rfl) (fun X A C => ?_)
  refine v_sub (lv' := [(0, .int p)]) [0] rfl ?_
  refine v_iload_n C 0 dX9_isProgram_0 rfl rfl ?_
  refine v_iconst (v := 0) C dX9_isProgram_1 (by decide) ?_
  refine v_iconst (v := 5) C dX9_isProgram_2 (by decide) ?_
  refine v_cSp C dX9_isProgram_3 lX9_131 mX9_within (d_within l G n ad _ p 0 5) ⟨by decide, by decide⟩ rfl (Nat.le_of_ble_eq_true rfl) ⟨Nat.zero_le _, Nat.zero_le _⟩ (fun r1 hp2 => ?_)
  rw [(show (0 : Int32).toInt = 0 by decide)] at hp2
  rw [(show (5 : Int32).toInt = 5 by decide)] at hp2
  rcases hp2 with ⟨rfl, hp2⟩ | ⟨rfl, hp2⟩
  · exact v_ret C dX9_isProgram_6 rfl rfl ⟨Or.inl ⟨rfl, by unfold okPr; omega⟩, rfl⟩
  · exact v_ret C dX9_isProgram_6 rfl rfl ⟨Or.inr ⟨rfl, by unfold okPr; omega⟩, rfl⟩

set_option maxRecDepth 20000 in
theorem d_areOdds (l : Launch) (G : Gl) (n : Nat) (ad : Nat → Nat) (E : Nat → va_E) (a : Int32) (b : Int32)  : CtI l G yX9_areOdds cX9_areOdds 2 .boolean 2 42 n ad E [.int a, .int b] (fun r E' => ((r = 1 ∧ (okRng a.toInt b.toInt)) ∨ (r = 0 ∧ ¬ (okRng a.toInt b.toInt))) ∧ E = E') := by
  refine CtI.of (by decide) (Nat.le_of_ble_eq_true rfl) (fun X A C => ?_)
  refine v_sub (lv' := [(0, .int a), (1, .int b)]) [0, 1] rfl ?_
  refine v_iload_n C 0 dX9_areOdds_0 rfl rfl ?_
  refine v_cSp C dX9_areOdds_1 lX9_179 mX9_isMoment (d_isMoment l G n ad _ a) ⟨by decide, by decide⟩ rfl (Nat.le_of_ble_eq_true rfl) ⟨Nat.zero_le _, Nat.zero_le _⟩ (fun r1 hp2 => ?_)
  unfold okMom at hp2
  rcases hp2 with ⟨rfl, hp2⟩ | ⟨rfl, hp2⟩
  · refine b_if_eq C 32 dX9_areOdds_4 (by decide) (show (1 : Int32).toInt = 1 by decide) (fun c3 => absurd c3 (by decide)) (fun c3 => ?_)
    refine v_iload_n C 1 dX9_areOdds_7 rfl rfl ?_
    refine v_cSp C dX9_areOdds_8 lX9_179 mX9_isMoment (d_isMoment l G n ad _ b) ⟨by decide, by decide⟩ rfl (Nat.le_of_ble_eq_true rfl) ⟨Nat.zero_le _, Nat.zero_le _⟩ (fun r4 hp5 => ?_)
    unfold okMom at hp5
    rcases hp5 with ⟨rfl, hp5⟩ | ⟨rfl, hp5⟩
    · refine b_if_eq C 32 dX9_areOdds_11 (by decide) (show (1 : Int32).toInt = 1 by decide) (fun c6 => absurd c6 (by decide)) (fun c6 => ?_)
      refine v_iload_n C 0 dX9_areOdds_14 rfl rfl ?_
      refine v_iload_n C 1 dX9_areOdds_15 rfl rfl ?_
      refine b_icmp_gt C 32 dX9_areOdds_16 (by decide) (rfl : Int32.toInt a = _) (rfl : Int32.toInt b = _) (fun c7 => ?_) (fun c7 => ?_)
      · refine v_iconst (v := 0) C dX9_areOdds_32 (by decide) ?_
        exact v_ret C dX9_areOdds_33 rfl rfl ⟨Or.inr ⟨rfl, by unfold okRng; omega⟩, rfl⟩
      · refine v_iload_n C 1 dX9_areOdds_19 rfl rfl ?_
        refine v_iload_n C 0 dX9_areOdds_20 rfl rfl ?_
        refine v_isub C dX9_areOdds_21 ?_
        refine v_top (fun x8 ex8 => ?_)
        have hx8 : x8.toInt = (b.toInt - a.toInt) := by rw [ex8]; exact ti_sub (rfl : Int32.toInt b = _) (rfl : Int32.toInt a = _) (by omega) (by omega)
        refine v_ldcw C dX9_areOdds_22 kX9_276 ?_
        refine b_icmp_gt C 32 dX9_areOdds_25 (by decide) hx8 (show (2000000 : Int32).toInt = 2000000 by decide) (fun c9 => ?_) (fun c9 => ?_)
        · refine v_iconst (v := 0) C dX9_areOdds_32 (by decide) ?_
          exact v_ret C dX9_areOdds_33 rfl rfl ⟨Or.inr ⟨rfl, by unfold okRng; omega⟩, rfl⟩
        · refine v_iconst (v := 1) C dX9_areOdds_28 (by decide) ?_
          refine v_goto C 33 dX9_areOdds_29 (by decide) ?_
          exact v_ret C dX9_areOdds_33 rfl rfl ⟨Or.inl ⟨rfl, by unfold okRng; omega⟩, rfl⟩
    · refine b_if_eq C 32 dX9_areOdds_11 (by decide) (show (0 : Int32).toInt = 0 by decide) (fun c10 => ?_) (fun c10 => absurd c10 (by decide))
      refine v_iconst (v := 0) C dX9_areOdds_32 (by decide) ?_
      exact v_ret C dX9_areOdds_33 rfl rfl ⟨Or.inr ⟨rfl, by unfold okRng; omega⟩, rfl⟩
  · refine b_if_eq C 32 dX9_areOdds_4 (by decide) (show (0 : Int32).toInt = 0 by decide) (fun c11 => ?_) (fun c11 => absurd c11 (by decide))
    refine v_iconst (v := 0) C dX9_areOdds_32 (by decide) ?_
    exact v_ret C dX9_areOdds_33 rfl rfl ⟨Or.inr ⟨rfl, by unfold okRng; omega⟩, rfl⟩

set_option maxRecDepth 20000 in
theorem d_isRow (l : Launch) (G : Gl) (n : Nat) (ad : Nat → Nat) (E : Nat → va_E) (a : Int32) (m : Int32) (z : Int32) (hz : z.toInt ≤ 2000000)  : CtI l G yX9_isRow cX9_isRow 3 .boolean 2 42 n ad E [.int a, .int m, .int z] (fun r E' => ((r = 1 ∧ (okRch a.toInt m.toInt z.toInt)) ∨ (r = 0 ∧ ¬ (okRch a.toInt m.toInt z.toInt))) ∧ E = E') := by
  refine CtI.of (by decide) (Nat.le_of_ble_eq_true rfl) (fun X A C => ?_)
  refine v_sub (lv' := [(0, .int a), (1, .int m), (2, .int z)]) [0, 1, 2] rfl ?_
  refine v_iload_n C 0 dX9_isRow_0 rfl rfl ?_
  refine v_cSp C dX9_isRow_1 lX9_179 mX9_isMoment (d_isMoment l G n ad _ a) ⟨by decide, by decide⟩ rfl (Nat.le_of_ble_eq_true rfl) ⟨Nat.zero_le _, Nat.zero_le _⟩ (fun r1 hp2 => ?_)
  unfold okMom at hp2
  rcases hp2 with ⟨rfl, hp2⟩ | ⟨rfl, hp2⟩
  · refine b_if_eq C 29 dX9_isRow_4 (by decide) (show (1 : Int32).toInt = 1 by decide) (fun c3 => absurd c3 (by decide)) (fun c3 => ?_)
    refine v_iload_n C 1 dX9_isRow_7 rfl rfl ?_
    refine v_iconst (v := 0) C dX9_isRow_8 (by decide) ?_
    refine v_iload_n C 2 dX9_isRow_9 rfl rfl ?_
    refine v_cSp C dX9_isRow_10 lX9_131 mX9_within (d_within l G n ad _ m 0 z) ⟨by decide, by decide⟩ rfl (Nat.le_of_ble_eq_true rfl) ⟨Nat.zero_le _, Nat.zero_le _⟩ (fun r4 hp5 => ?_)
    rw [(show (0 : Int32).toInt = 0 by decide)] at hp5
    rcases hp5 with ⟨rfl, hp5⟩ | ⟨rfl, hp5⟩
    · refine b_if_eq C 29 dX9_isRow_13 (by decide) (show (1 : Int32).toInt = 1 by decide) (fun c6 => absurd c6 (by decide)) (fun c6 => ?_)
      refine v_iload_n C 0 dX9_isRow_16 rfl rfl ?_
      refine v_iload_n C 1 dX9_isRow_17 rfl rfl ?_
      refine v_iadd C dX9_isRow_18 ?_
      refine v_top (fun x7 ex7 => ?_)
      have hx7 : x7.toInt = (a.toInt + m.toInt) := by rw [ex7]; exact ti_add (rfl : Int32.toInt a = _) (rfl : Int32.toInt m = _) (by omega) (by omega)
      refine v_cSp C dX9_isRow_19 lX9_179 mX9_isMoment (d_isMoment l G n ad _ x7) ⟨by decide, by decide⟩ rfl (Nat.le_of_ble_eq_true rfl) ⟨Nat.zero_le _, Nat.zero_le _⟩ (fun r8 hp9 => ?_)
      rw [hx7] at hp9
      unfold okMom at hp9
      rcases hp9 with ⟨rfl, hp9⟩ | ⟨rfl, hp9⟩
      · refine b_if_eq C 29 dX9_isRow_22 (by decide) (show (1 : Int32).toInt = 1 by decide) (fun c10 => absurd c10 (by decide)) (fun c10 => ?_)
        refine v_iconst (v := 1) C dX9_isRow_25 (by decide) ?_
        refine v_goto C 30 dX9_isRow_26 (by decide) ?_
        exact v_ret C dX9_isRow_30 rfl rfl ⟨Or.inl ⟨rfl, by unfold okRch; omega⟩, rfl⟩
      · refine b_if_eq C 29 dX9_isRow_22 (by decide) (show (0 : Int32).toInt = 0 by decide) (fun c11 => ?_) (fun c11 => absurd c11 (by decide))
        refine v_iconst (v := 0) C dX9_isRow_29 (by decide) ?_
        exact v_ret C dX9_isRow_30 rfl rfl ⟨Or.inr ⟨rfl, by unfold okRch; omega⟩, rfl⟩
    · refine b_if_eq C 29 dX9_isRow_13 (by decide) (show (0 : Int32).toInt = 0 by decide) (fun c12 => ?_) (fun c12 => absurd c12 (by decide))
      refine v_iconst (v := 0) C dX9_isRow_29 (by decide) ?_
      exact v_ret C dX9_isRow_30 rfl rfl ⟨Or.inr ⟨rfl, by unfold okRch; omega⟩, rfl⟩
  · refine b_if_eq C 29 dX9_isRow_4 (by decide) (show (0 : Int32).toInt = 0 by decide) (fun c13 => ?_) (fun c13 => absurd c13 (by decide))
    refine v_iconst (v := 0) C dX9_isRow_29 (by decide) ?_
    exact v_ret C dX9_isRow_30 rfl rfl ⟨Or.inr ⟨rfl, by unfold okRch; omega⟩, rfl⟩

set_option maxRecDepth 20000 in
theorem d_isZone0 (l : Launch) (G : Gl) (n : Nat) (ad : Nat → Nat) (E : Nat → va_E) (hn : 98 ≤ n) (hf : FreshM G ad E) (z : Int32)  : CtI l G yX9_isZone cX9_isZone 2 .boolean 0 0 n ad E [.ref (ad 68), .int z] (fun r E' => (r = 0) ∧ E = E') := by
  refine CtI.of (by decide) (Nat.le_of_ble_eq_true rfl) (fun X A C => ?_)
  obtain ⟨h68, h69, h70, h71, h72, h73, h74, h75, h76, h77, h78, h79, h80, h81, h82, h83, h84, h85, h86, h87, h88, h89, h90, h91, h92, h93, h94, h95, h96, h97⟩ := id hf
  refine v_sub (lv' := [(0, .ref (ad 68)), (1, .int z)]) [0, 1] rfl ?_
  refine v_iload_n C 1 dX9_isZone_0 rfl rfl ?_
  refine b_if_lt C 16 dX9_isZone_1 (by decide) (rfl : Int32.toInt z = _) (fun c1 => ?_) (fun c1 => ?_)
  · refine v_iconst (v := 0) C dX9_isZone_16 (by decide) ?_
    exact v_ret C dX9_isZone_17 rfl rfl ⟨rfl, rfl⟩
  · refine v_iload_n C 1 dX9_isZone_4 rfl rfl ?_
    refine v_aload_n C 0 dX9_isZone_5 rfl rfl ?_
    refine v_geti (v := 0) C 68 dX9_isZone_6 fX9_135 (by omega) h68 rfl rfl ?_
    refine b_icmp_ge C 16 dX9_isZone_9 (by decide) (rfl : Int32.toInt z = _) (show (0 : Int32).toInt = 0 by decide) (fun c2 => ?_) (fun c2 => ?_)
    · refine v_iconst (v := 0) C dX9_isZone_16 (by decide) ?_
      exact v_ret C dX9_isZone_17 rfl rfl ⟨rfl, rfl⟩
    · refine v_iconst (v := 1) C dX9_isZone_12 (by decide) ?_
      refine v_goto C 17 dX9_isZone_13 (by decide) ?_
      exact v_ret C dX9_isZone_17 rfl rfl ⟨(by exfalso; omega), rfl⟩

set_option maxRecDepth 20000 in
theorem m_rule (l : Launch) (G : Gl) (n : Nat) (ad : Nat → Nat) (E : Nat → va_E) (hn : 98 ≤ n) (hf : FreshM G ad E) (z : Int32) (y : Int32) (k : Int32) (t : Int32) (v : Int32)  : CtI l G yX9_rule cX9_rule 7 .int 1 21 n ad E [.ref (ad 68), .int z, .int y, .int k, .int t, .int v] (fun r E' => r.toInt = -1) := by
  refine CtI.of (by decide) (Nat.le_of_ble_eq_true rfl) (fun X A C => ?_)
  obtain ⟨h68, h69, h70, h71, h72, h73, h74, h75, h76, h77, h78, h79, h80, h81, h82, h83, h84, h85, h86, h87, h88, h89, h90, h91, h92, h93, h94, h95, h96, h97⟩ := id hf
  refine v_sub (lv' := [(0, .ref (ad 68)), (1, .int z), (2, .int y), (3, .int k), (4, .int t), (5, .int v)]) [0, 1, 2, 3, 4, 5] rfl ?_
  refine v_aload_n C 0 dX9_rule_0 rfl rfl ?_
  refine v_iload_n C 1 dX9_rule_1 rfl rfl ?_
  refine v_cVp C dX9_rule_2 lX9_162 mX9_isZone 68 (by omega) h68 (by decide) rfl (d_isZone0 l G n ad _ hn hf z) ⟨by decide, by decide⟩ rfl (Nat.le_of_ble_eq_true rfl) ⟨Nat.zero_le _, Nat.zero_le _⟩ (fun r1 hp2 => ?_)
  subst hp2
  refine b_if_eq C 94 dX9_rule_5 (by decide) (show (0 : Int32).toInt = 0 by decide) (fun c3 => ?_) (fun c3 => absurd c3 (by decide))
  refine v_iconst (v := (-1)) C dX9_rule_94 (by decide) ?_
  exact v_ret C dX9_rule_95 rfl rfl (show _ by rw [show ((-1) : Int32).toInt = (-1) by decide]; (repeat first | rw [if_pos (by omega)] | rw [if_neg (by omega)]); try omega)

set_option maxRecDepth 20000 in
theorem m_changes (l : Launch) (G : Gl) (n : Nat) (ad : Nat → Nat) (E : Nat → va_E) (hn : 98 ≤ n) (hf : FreshM G ad E) (z : Int32)  : CtI l G yX9_changes cX9_changes 2 .int 1 21 n ad E [.ref (ad 68), .int z] (fun r E' => r.toInt = -1) := by
  refine CtI.of (by decide) (Nat.le_of_ble_eq_true rfl) (fun X A C => ?_)
  obtain ⟨h68, h69, h70, h71, h72, h73, h74, h75, h76, h77, h78, h79, h80, h81, h82, h83, h84, h85, h86, h87, h88, h89, h90, h91, h92, h93, h94, h95, h96, h97⟩ := id hf
  refine v_sub (lv' := [(0, .ref (ad 68)), (1, .int z)]) [0, 1] rfl ?_
  refine v_aload_n C 0 dX9_changes_0 rfl rfl ?_
  refine v_iload_n C 1 dX9_changes_1 rfl rfl ?_
  refine v_cVp C dX9_changes_2 lX9_162 mX9_isZone 68 (by omega) h68 (by decide) rfl (d_isZone0 l G n ad _ hn hf z) ⟨by decide, by decide⟩ rfl (Nat.le_of_ble_eq_true rfl) ⟨Nat.zero_le _, Nat.zero_le _⟩ (fun r1 hp2 => ?_)
  subst hp2
  refine b_if_ne C 10 dX9_changes_5 (by decide) (show (0 : Int32).toInt = 0 by decide) (fun c3 => absurd c3 (by decide)) (fun c3 => ?_)
  refine v_iconst (v := (-1)) C dX9_changes_8 (by decide) ?_
  exact v_ret C dX9_changes_9 rfl rfl (show _ by rw [show ((-1) : Int32).toInt = (-1) by decide]; (repeat first | rw [if_pos (by omega)] | rw [if_neg (by omega)]); try omega)

set_option maxRecDepth 20000 in
theorem m_change (l : Launch) (G : Gl) (n : Nat) (ad : Nat → Nat) (E : Nat → va_E) (hn : 98 ≤ n) (hf : FreshM G ad E) (z : Int32) (i : Int32)  : CtI l G yX9_change cX9_change 3 .int 1 21 n ad E [.ref (ad 68), .int z, .int i] (fun r E' => r.toInt = -1) := by
  refine CtI.of (by decide) (Nat.le_of_ble_eq_true rfl) (fun X A C => ?_)
  obtain ⟨h68, h69, h70, h71, h72, h73, h74, h75, h76, h77, h78, h79, h80, h81, h82, h83, h84, h85, h86, h87, h88, h89, h90, h91, h92, h93, h94, h95, h96, h97⟩ := id hf
  refine v_sub (lv' := [(0, .ref (ad 68)), (1, .int z), (2, .int i)]) [0, 1, 2] rfl ?_
  refine v_aload_n C 0 dX9_change_0 rfl rfl ?_
  refine v_iload_n C 1 dX9_change_1 rfl rfl ?_
  refine v_cVp C dX9_change_2 lX9_162 mX9_isZone 68 (by omega) h68 (by decide) rfl (d_isZone0 l G n ad _ hn hf z) ⟨by decide, by decide⟩ rfl (Nat.le_of_ble_eq_true rfl) ⟨Nat.zero_le _, Nat.zero_le _⟩ (fun r1 hp2 => ?_)
  subst hp2
  refine b_if_eq C 38 dX9_change_5 (by decide) (show (0 : Int32).toInt = 0 by decide) (fun c3 => ?_) (fun c3 => absurd c3 (by decide))
  refine v_iconst (v := (-1)) C dX9_change_38 (by decide) ?_
  exact v_ret C dX9_change_39 rfl rfl (show _ by rw [show ((-1) : Int32).toInt = (-1) by decide]; (repeat first | rw [if_pos (by omega)] | rw [if_neg (by omega)]); try omega)

set_option maxRecDepth 20000 in
theorem m_offset (l : Launch) (G : Gl) (n : Nat) (ad : Nat → Nat) (E : Nat → va_E) (hn : 98 ≤ n) (hf : FreshM G ad E) (z : Int32) (m : Int32)  : CtI l G yX9_offset cX9_offset 3 .int 1 21 n ad E [.ref (ad 68), .int z, .int m] (fun r E' => r.toInt = -9999) := by
  refine CtI.of (by decide) (Nat.le_of_ble_eq_true rfl) (fun X A C => ?_)
  obtain ⟨h68, h69, h70, h71, h72, h73, h74, h75, h76, h77, h78, h79, h80, h81, h82, h83, h84, h85, h86, h87, h88, h89, h90, h91, h92, h93, h94, h95, h96, h97⟩ := id hf
  refine v_sub (lv' := [(0, .ref (ad 68)), (1, .int z), (2, .int m)]) [0, 1, 2] rfl ?_
  refine v_aload_n C 0 dX9_offset_0 rfl rfl ?_
  refine v_iload_n C 1 dX9_offset_1 rfl rfl ?_
  refine v_cVp C dX9_offset_2 lX9_162 mX9_isZone 68 (by omega) h68 (by decide) rfl (d_isZone0 l G n ad _ hn hf z) ⟨by decide, by decide⟩ rfl (Nat.le_of_ble_eq_true rfl) ⟨Nat.zero_le _, Nat.zero_le _⟩ (fun r1 hp2 => ?_)
  subst hp2
  refine b_if_eq C 24 dX9_offset_5 (by decide) (show (0 : Int32).toInt = 0 by decide) (fun c3 => ?_) (fun c3 => absurd c3 (by decide))
  refine v_sipush (v := (-9999)) C dX9_offset_24 (by decide) ?_
  exact v_ret C dX9_offset_27 rfl rfl (show _ by rw [show ((-9999) : Int32).toInt = (-9999) by decide]; (repeat first | rw [if_pos (by omega)] | rw [if_neg (by omega)]); try omega)

set_option maxRecDepth 20000 in
theorem m_wall (l : Launch) (G : Gl) (n : Nat) (ad : Nat → Nat) (E : Nat → va_E) (hn : 98 ≤ n) (hf : FreshM G ad E) (z : Int32) (m : Int32)  : CtI l G yX9_wall cX9_wall 4 .int 1 21 n ad E [.ref (ad 68), .int z, .int m] (fun r E' => r.toInt = -1) := by
  refine CtI.of (by decide) (Nat.le_of_ble_eq_true rfl) (fun X A C => ?_)
  obtain ⟨h68, h69, h70, h71, h72, h73, h74, h75, h76, h77, h78, h79, h80, h81, h82, h83, h84, h85, h86, h87, h88, h89, h90, h91, h92, h93, h94, h95, h96, h97⟩ := id hf
  refine v_sub (lv' := [(0, .ref (ad 68)), (1, .int z), (2, .int m)]) [0, 1, 2] rfl ?_
  refine v_aload_n C 0 dX9_wall_0 rfl rfl ?_
  refine v_iload_n C 1 dX9_wall_1 rfl rfl ?_
  refine v_cVp C dX9_wall_2 lX9_162 mX9_isZone 68 (by omega) h68 (by decide) rfl (d_isZone0 l G n ad _ hn hf z) ⟨by decide, by decide⟩ rfl (Nat.le_of_ble_eq_true rfl) ⟨Nat.zero_le _, Nat.zero_le _⟩ (fun r1 hp2 => ?_)
  subst hp2
  refine b_if_eq C 15 dX9_wall_5 (by decide) (show (0 : Int32).toInt = 0 by decide) (fun c3 => ?_) (fun c3 => absurd c3 (by decide))
  refine v_iconst (v := (-1)) C dX9_wall_15 (by decide) ?_
  exact v_ret C dX9_wall_16 rfl rfl (show _ by rw [show ((-1) : Int32).toInt = (-1) by decide]; (repeat first | rw [if_pos (by omega)] | rw [if_neg (by omega)]); try omega)

set_option maxRecDepth 20000 in
theorem m_moments (l : Launch) (G : Gl) (n : Nat) (ad : Nat → Nat) (E : Nat → va_E) (hn : 98 ≤ n) (hf : FreshM G ad E) (z : Int32) (w : Int32)  : CtI l G yX9_moments cX9_moments 3 .int 1 21 n ad E [.ref (ad 68), .int z, .int w] (fun r E' => r.toInt = -1) := by
  refine CtI.of (by decide) (Nat.le_of_ble_eq_true rfl) (fun X A C => ?_)
  obtain ⟨h68, h69, h70, h71, h72, h73, h74, h75, h76, h77, h78, h79, h80, h81, h82, h83, h84, h85, h86, h87, h88, h89, h90, h91, h92, h93, h94, h95, h96, h97⟩ := id hf
  refine v_sub (lv' := [(0, .ref (ad 68)), (1, .int z), (2, .int w)]) [0, 1, 2] rfl ?_
  refine v_aload_n C 0 dX9_moments_0 rfl rfl ?_
  refine v_iload_n C 1 dX9_moments_1 rfl rfl ?_
  refine v_cVp C dX9_moments_2 lX9_162 mX9_isZone 68 (by omega) h68 (by decide) rfl (d_isZone0 l G n ad _ hn hf z) ⟨by decide, by decide⟩ rfl (Nat.le_of_ble_eq_true rfl) ⟨Nat.zero_le _, Nat.zero_le _⟩ (fun r1 hp2 => ?_)
  subst hp2
  refine b_if_eq C 26 dX9_moments_5 (by decide) (show (0 : Int32).toInt = 0 by decide) (fun c3 => ?_) (fun c3 => absurd c3 (by decide))
  refine v_iconst (v := (-1)) C dX9_moments_26 (by decide) ?_
  exact v_ret C dX9_moments_27 rfl rfl (show _ by rw [show ((-1) : Int32).toInt = (-1) by decide]; (repeat first | rw [if_pos (by omega)] | rw [if_neg (by omega)]); try omega)

set_option maxRecDepth 20000 in
theorem m_moment (l : Launch) (G : Gl) (n : Nat) (ad : Nat → Nat) (E : Nat → va_E) (hn : 98 ≤ n) (hf : FreshM G ad E) (z : Int32) (w : Int32) (i : Int32)  : CtI l G yX9_moment cX9_moment 5 .int 1 21 n ad E [.ref (ad 68), .int z, .int w, .int i] (fun r E' => r.toInt = -1) := by
  refine CtI.of (by decide) (Nat.le_of_ble_eq_true rfl) (fun X A C => ?_)
  obtain ⟨h68, h69, h70, h71, h72, h73, h74, h75, h76, h77, h78, h79, h80, h81, h82, h83, h84, h85, h86, h87, h88, h89, h90, h91, h92, h93, h94, h95, h96, h97⟩ := id hf
  refine v_sub (lv' := [(0, .ref (ad 68)), (1, .int z), (2, .int w), (3, .int i)]) [0, 1, 2, 3] rfl ?_
  refine v_aload_n C 0 dX9_moment_0 rfl rfl ?_
  refine v_iload_n C 1 dX9_moment_1 rfl rfl ?_
  refine v_cVp C dX9_moment_2 lX9_162 mX9_isZone 68 (by omega) h68 (by decide) rfl (d_isZone0 l G n ad _ hn hf z) ⟨by decide, by decide⟩ rfl (Nat.le_of_ble_eq_true rfl) ⟨Nat.zero_le _, Nat.zero_le _⟩ (fun r1 hp2 => ?_)
  subst hp2
  refine b_if_eq C 16 dX9_moment_5 (by decide) (show (0 : Int32).toInt = 0 by decide) (fun c3 => ?_) (fun c3 => absurd c3 (by decide))
  refine v_iconst (v := (-1)) C dX9_moment_16 (by decide) ?_
  exact v_ret C dX9_moment_17 rfl rfl (show _ by rw [show ((-1) : Int32).toInt = (-1) by decide]; (repeat first | rw [if_pos (by omega)] | rw [if_neg (by omega)]); try omega)

set_option maxRecDepth 20000 in
theorem m_meetings (l : Launch) (G : Gl) (n : Nat) (ad : Nat → Nat) (E : Nat → va_E) (hn : 98 ≤ n) (hf : FreshM G ad E) (z : Int32) (a : Int32) (p : Int32) (q : Int32) (w : Int32)  : CtI l G yX9_meetings cX9_meetings 9 .int 1 21 n ad E [.ref (ad 68), .int z, .int a, .int p, .int q, .int w] (fun r E' => r.toInt = -1) := by
  refine CtI.of (by decide) (Nat.le_of_ble_eq_true rfl) (fun X A C => ?_)
  obtain ⟨h68, h69, h70, h71, h72, h73, h74, h75, h76, h77, h78, h79, h80, h81, h82, h83, h84, h85, h86, h87, h88, h89, h90, h91, h92, h93, h94, h95, h96, h97⟩ := id hf
  refine v_sub (lv' := [(0, .ref (ad 68)), (1, .int z), (2, .int a), (3, .int p), (4, .int q), (5, .int w)]) [0, 1, 2, 3, 4, 5] rfl ?_
  refine v_aload_n C 0 dX9_meetings_0 rfl rfl ?_
  refine v_iload_n C 1 dX9_meetings_1 rfl rfl ?_
  refine v_cVp C dX9_meetings_2 lX9_162 mX9_isZone 68 (by omega) h68 (by decide) rfl (d_isZone0 l G n ad _ hn hf z) ⟨by decide, by decide⟩ rfl (Nat.le_of_ble_eq_true rfl) ⟨Nat.zero_le _, Nat.zero_le _⟩ (fun r1 hp2 => ?_)
  subst hp2
  refine b_if_eq C 76 dX9_meetings_5 (by decide) (show (0 : Int32).toInt = 0 by decide) (fun c3 => ?_) (fun c3 => absurd c3 (by decide))
  refine v_iconst (v := (-1)) C dX9_meetings_76 (by decide) ?_
  exact v_ret C dX9_meetings_77 rfl rfl (show _ by rw [show ((-1) : Int32).toInt = (-1) by decide]; (repeat first | rw [if_pos (by omega)] | rw [if_neg (by omega)]); try omega)

