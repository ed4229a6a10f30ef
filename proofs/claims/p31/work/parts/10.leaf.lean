set_option maxRecDepth 20000 in
theorem c_isYear (l : Launch) (G : Gl) (n : Nat) (ad : Nat → Nat) (E : Nat → va_E) (x : Int32) : CtI l G yX8_isYear cX8_isYear 1 .boolean 0 0 n ad E [.int x] (fun r E' => ((r = 1 ∧ (0 ≤ x.toInt ∧ x.toInt < 100)) ∨ (r = 0 ∧ ¬ (0 ≤ x.toInt ∧ x.toInt < 100))) ∧ E = E') := by
  refine CtI.of (by decide) (Nat.le_of_ble_eq_true rfl) (fun X A C => ?_)
  refine v_sub (lv' := [(0, .int x)]) [0] rfl ?_
  refine v_iload_n C 0 dX8_isYear_0 rfl rfl ?_
  refine b_if_lt C 14 dX8_isYear_1 (by decide) rfl (fun c1 => ?_) (fun c1 => ?_)
  · refine v_iconst (v := 0) C dX8_isYear_14 (by decide) ?_
    exact v_ret C dX8_isYear_15 rfl rfl ⟨Or.inr ⟨rfl, by omega⟩, rfl⟩
  · refine v_iload_n C 0 dX8_isYear_4 rfl rfl ?_
    refine v_bipush (v := 100) C dX8_isYear_5 (by decide) ?_
    refine b_icmp_ge C 14 dX8_isYear_7 (by decide) rfl (show (100 : Int32).toInt = 100 by decide) (fun c2 => ?_) (fun c2 => ?_)
    · refine v_iconst (v := 0) C dX8_isYear_14 (by decide) ?_
      exact v_ret C dX8_isYear_15 rfl rfl ⟨Or.inr ⟨rfl, by omega⟩, rfl⟩
    · refine v_iconst (v := 1) C dX8_isYear_10 (by decide) ?_
      refine v_goto C 15 dX8_isYear_11 (by decide) ?_
      exact v_ret C dX8_isYear_15 rfl rfl ⟨Or.inl ⟨rfl, by omega⟩, rfl⟩

set_option maxRecDepth 20000 in
theorem c_isMonth (l : Launch) (G : Gl) (n : Nat) (ad : Nat → Nat) (E : Nat → va_E) (x : Int32) : CtI l G yX8_isMonth cX8_isMonth 1 .boolean 0 0 n ad E [.int x] (fun r E' => ((r = 1 ∧ (0 ≤ x.toInt ∧ x.toInt < 12)) ∨ (r = 0 ∧ ¬ (0 ≤ x.toInt ∧ x.toInt < 12))) ∧ E = E') := by
  refine CtI.of (by decide) (Nat.le_of_ble_eq_true rfl) (fun X A C => ?_)
  refine v_sub (lv' := [(0, .int x)]) [0] rfl ?_
  refine v_iload_n C 0 dX8_isMonth_0 rfl rfl ?_
  refine b_if_lt C 14 dX8_isMonth_1 (by decide) rfl (fun c1 => ?_) (fun c1 => ?_)
  · refine v_iconst (v := 0) C dX8_isMonth_14 (by decide) ?_
    exact v_ret C dX8_isMonth_15 rfl rfl ⟨Or.inr ⟨rfl, by omega⟩, rfl⟩
  · refine v_iload_n C 0 dX8_isMonth_4 rfl rfl ?_
    refine v_bipush (v := 12) C dX8_isMonth_5 (by decide) ?_
    refine b_icmp_ge C 14 dX8_isMonth_7 (by decide) rfl (show (12 : Int32).toInt = 12 by decide) (fun c2 => ?_) (fun c2 => ?_)
    · refine v_iconst (v := 0) C dX8_isMonth_14 (by decide) ?_
      exact v_ret C dX8_isMonth_15 rfl rfl ⟨Or.inr ⟨rfl, by omega⟩, rfl⟩
    · refine v_iconst (v := 1) C dX8_isMonth_10 (by decide) ?_
      refine v_goto C 15 dX8_isMonth_11 (by decide) ?_
      exact v_ret C dX8_isMonth_15 rfl rfl ⟨Or.inl ⟨rfl, by omega⟩, rfl⟩

set_option maxRecDepth 20000 in
theorem c_isMinute (l : Launch) (G : Gl) (n : Nat) (ad : Nat → Nat) (E : Nat → va_E) (x : Int32) : CtI l G yX8_isMinute cX8_isMinute 1 .boolean 0 0 n ad E [.int x] (fun r E' => ((r = 1 ∧ (0 ≤ x.toInt ∧ x.toInt < 1440)) ∨ (r = 0 ∧ ¬ (0 ≤ x.toInt ∧ x.toInt < 1440))) ∧ E = E') := by
  refine CtI.of (by decide) (Nat.le_of_ble_eq_true rfl) (fun X A C => ?_)
  refine v_sub (lv' := [(0, .int x)]) [0] rfl ?_
  refine v_iload_n C 0 dX8_isMinute_0 rfl rfl ?_
  refine b_if_lt C 15 dX8_isMinute_1 (by decide) rfl (fun c1 => ?_) (fun c1 => ?_)
  · refine v_iconst (v := 0) C dX8_isMinute_15 (by decide) ?_
    exact v_ret C dX8_isMinute_16 rfl rfl ⟨Or.inr ⟨rfl, by omega⟩, rfl⟩
  · refine v_iload_n C 0 dX8_isMinute_4 rfl rfl ?_
    refine v_sipush (v := 1440) C dX8_isMinute_5 (by decide) ?_
    refine b_icmp_ge C 15 dX8_isMinute_8 (by decide) rfl (show (1440 : Int32).toInt = 1440 by decide) (fun c2 => ?_) (fun c2 => ?_)
    · refine v_iconst (v := 0) C dX8_isMinute_15 (by decide) ?_
      exact v_ret C dX8_isMinute_16 rfl rfl ⟨Or.inr ⟨rfl, by omega⟩, rfl⟩
    · refine v_iconst (v := 1) C dX8_isMinute_11 (by decide) ?_
      refine v_goto C 16 dX8_isMinute_12 (by decide) ?_
      exact v_ret C dX8_isMinute_16 rfl rfl ⟨Or.inl ⟨rfl, by omega⟩, rfl⟩

set_option maxRecDepth 20000 in
theorem c_isOffset (l : Launch) (G : Gl) (n : Nat) (ad : Nat → Nat) (E : Nat → va_E) (x : Int32) : CtI l G yX8_isOffset cX8_isOffset 1 .boolean 0 0 n ad E [.int x] (fun r E' => ((r = 1 ∧ (-720 ≤ x.toInt ∧ x.toInt ≤ 720)) ∨ (r = 0 ∧ ¬ (-720 ≤ x.toInt ∧ x.toInt ≤ 720))) ∧ E = E') := by
  refine CtI.of (by decide) (Nat.le_of_ble_eq_true rfl) (fun X A C => ?_)
  refine v_sub (lv' := [(0, .int x)]) [0] rfl ?_
  refine v_iload_n C 0 dX8_isOffset_0 rfl rfl ?_
  refine v_sipush (v := (-720)) C dX8_isOffset_1 (by decide) ?_
  refine b_icmp_lt C 18 dX8_isOffset_4 (by decide) rfl (show ((-720) : Int32).toInt = (-720) by decide) (fun c1 => ?_) (fun c1 => ?_)
  · refine v_iconst (v := 0) C dX8_isOffset_18 (by decide) ?_
    exact v_ret C dX8_isOffset_19 rfl rfl ⟨Or.inr ⟨rfl, by omega⟩, rfl⟩
  · refine v_iload_n C 0 dX8_isOffset_7 rfl rfl ?_
    refine v_sipush (v := 720) C dX8_isOffset_8 (by decide) ?_
    refine b_icmp_gt C 18 dX8_isOffset_11 (by decide) rfl (show (720 : Int32).toInt = 720 by decide) (fun c2 => ?_) (fun c2 => ?_)
    · refine v_iconst (v := 0) C dX8_isOffset_18 (by decide) ?_
      exact v_ret C dX8_isOffset_19 rfl rfl ⟨Or.inr ⟨rfl, by omega⟩, rfl⟩
    · refine v_iconst (v := 1) C dX8_isOffset_14 (by decide) ?_
      refine v_goto C 19 dX8_isOffset_15 (by decide) ?_
      exact v_ret C dX8_isOffset_19 rfl rfl ⟨Or.inl ⟨rfl, by omega⟩, rfl⟩

set_option maxRecDepth 20000 in
theorem c_isMoment (l : Launch) (G : Gl) (n : Nat) (ad : Nat → Nat) (E : Nat → va_E) (x : Int32) : CtI l G yX8_isMoment cX8_isMoment 1 .boolean 0 0 n ad E [.int x] (fun r E' => ((r = 1 ∧ (0 ≤ x.toInt ∧ x.toInt < 60000000)) ∨ (r = 0 ∧ ¬ (0 ≤ x.toInt ∧ x.toInt < 60000000))) ∧ E = E') := by
  refine CtI.of (by decide) (Nat.le_of_ble_eq_true rfl) (fun X A C => ?_)
  refine v_sub (lv' := [(0, .int x)]) [0] rfl ?_
  refine v_iload_n C 0 dX8_isMoment_0 rfl rfl ?_
  refine b_if_lt C 15 dX8_isMoment_1 (by decide) rfl (fun c1 => ?_) (fun c1 => ?_)
  · refine v_iconst (v := 0) C dX8_isMoment_15 (by decide) ?_
    exact v_ret C dX8_isMoment_16 rfl rfl ⟨Or.inr ⟨rfl, by omega⟩, rfl⟩
  · refine v_iload_n C 0 dX8_isMoment_4 rfl rfl ?_
    refine v_ldcw C dX8_isMoment_5 kX8_288 ?_
    refine b_icmp_ge C 15 dX8_isMoment_8 (by decide) rfl (show (60000000 : Int32).toInt = 60000000 by decide) (fun c2 => ?_) (fun c2 => ?_)
    · refine v_iconst (v := 0) C dX8_isMoment_15 (by decide) ?_
      exact v_ret C dX8_isMoment_16 rfl rfl ⟨Or.inr ⟨rfl, by omega⟩, rfl⟩
    · refine v_iconst (v := 1) C dX8_isMoment_11 (by decide) ?_
      refine v_goto C 16 dX8_isMoment_12 (by decide) ?_
      exact v_ret C dX8_isMoment_16 rfl rfl ⟨Or.inl ⟨rfl, by omega⟩, rfl⟩

set_option maxRecDepth 20000 in
theorem d_within (l : Launch) (G : Gl) (n : Nat) (ad : Nat → Nat) (E : Nat → va_E) (x a b : Int32) : CtI l G yX9_within cX9_within 3 .boolean 0 0 n ad E [.int x, .int a, .int b] (fun r E' => ((r = 1 ∧ (a.toInt ≤ x.toInt ∧ x.toInt ≤ b.toInt)) ∨ (r = 0 ∧ ¬ (a.toInt ≤ x.toInt ∧ x.toInt ≤ b.toInt))) ∧ E = E') := by
  refine CtI.of (by decide) (Nat.le_of_ble_eq_true rfl) (fun X A C => ?_)
  refine v_sub (lv' := [(0, .int x), (1, .int a), (2, .int b)]) [0, 1, 2] rfl ?_
  refine v_iload_n C 0 dX9_within_0 rfl rfl ?_
  refine v_iload_n C 1 dX9_within_1 rfl rfl ?_
  refine b_icmp_lt C 14 dX9_within_2 (by decide) rfl rfl (fun c1 => ?_) (fun c1 => ?_)
  · refine v_iconst (v := 0) C dX9_within_14 (by decide) ?_
    exact v_ret C dX9_within_15 rfl rfl ⟨Or.inr ⟨rfl, by omega⟩, rfl⟩
  · refine v_iload_n C 0 dX9_within_5 rfl rfl ?_
    refine v_iload_n C 2 dX9_within_6 rfl rfl ?_
    refine b_icmp_gt C 14 dX9_within_7 (by decide) rfl rfl (fun c2 => ?_) (fun c2 => ?_)
    · refine v_iconst (v := 0) C dX9_within_14 (by decide) ?_
      exact v_ret C dX9_within_15 rfl rfl ⟨Or.inr ⟨rfl, by omega⟩, rfl⟩
    · refine v_iconst (v := 1) C dX9_within_10 (by decide) ?_
      refine v_goto C 15 dX9_within_11 (by decide) ?_
      exact v_ret C dX9_within_15 rfl rfl ⟨Or.inl ⟨rfl, by omega⟩, rfl⟩

