/-! ===== the changes that the class lists ===== -/
def EDc (k : Nat) (fo fx fy el eo ex ey : Nat → Int32) (i c : Nat) : Prop := ∀ l d, (l < i ∧ d < anN k (fo l).toInt (fx l).toInt) ∨ (l = i ∧ d < c) → (el (bsN k fo fx l + d)).toInt = (l : Int) ∧ eo (bsN k fo fx l + d) = Int32.ofInt (anO (fo l).toInt) ∧ ex (bsN k fo fx l + d) = Int32.ofInt (anX (fo l).toInt (fx l).toInt d) ∧ ey (bsN k fo fx l + d) = Int32.ofInt (anY (fo l).toInt (fy l).toInt d)
def EDs (G : Gl) (ad : Nat → Nat) (k : Nat) (fo fx fy : Nat → Int32) (E : Nat → va_E) (i c : Nat) : Prop := ∃ i51 el eo ex ey : Nat → Int32, E 51 = ob 3 (rfs ad [6, 48, 52, 58, 64, 65, 66, 67]) i51 ∧ (i51 8).toInt = ((bsN k fo fx i + c : Nat) : Int) ∧ E 64 = aI G 50 el ∧ E 65 = aI G 50 eo ∧ E 66 = aI G 50 ex ∧ E 67 = aI G 50 ey ∧ EDc k fo fx fy el eo ex ey i c
theorem EDs.go {G : Gl} {ad : Nat → Nat} {k : Nat} {fo fx fy : Nat → Int32} {E E1 : Nat → va_E} {i c : Nat} (h : EDs G ad k fo fx fy E i c) (o : ∀ j, (j = 51 ∨ (64 ≤ j ∧ j ≤ 67)) → E1 j = E j) : EDs G ad k fo fx fy E1 i c := by
  obtain ⟨i51, el, eo, ex, ey, h1, h2, h3, h4, h5, h6, h7⟩ := h
  exact ⟨i51, el, eo, ex, ey, (o 51 (by omega)).trans h1, h2, (o 64 (by omega)).trans h3, (o 65 (by omega)).trans h4, (o 66 (by omega)).trans h5, (o 67 (by omega)).trans h6, h7⟩
theorem EDc.add {k : Nat} {fo fx fy el eo ex ey : Nat → Int32} {i c : Nat} {a o x y : Int32} (h : EDc k fo fx fy el eo ex ey i c) (ha : a.toInt = (i : Int)) (ho : o = Int32.ofInt (anO (fo i).toInt)) (hx : x = Int32.ofInt (anX (fo i).toInt (fx i).toInt c)) (hy : y = Int32.ofInt (anY (fo i).toInt (fy i).toInt c)) : EDc k fo fx fy (upd el (bsN k fo fx i + c) a) (upd eo (bsN k fo fx i + c) o) (upd ex (bsN k fo fx i + c) x) (upd ey (bsN k fo fx i + c) y) i (c + 1) := by
  intro l d hl
  by_cases q : l = i ∧ d = c
  · obtain ⟨rfl, rfl⟩ := q
    rw [upd_same, upd_same, upd_same, upd_same]
    exact ⟨ha, ho, hx, hy⟩
  · have hlt : bsN k fo fx l + d < bsN k fo fx i + c := by
      rcases hl with ⟨h1, h2⟩ | ⟨h1, h2⟩
      · exact bs_lt h2 h1
      · subst h1; omega
    rw [upd_ne (by omega), upd_ne (by omega), upd_ne (by omega), upd_ne (by omega)]
    refine h l d ?_
    rcases hl with h1 | ⟨h1, h2⟩
    · exact Or.inl h1
    · exact Or.inr ⟨h1, by omega⟩
theorem EDs.next {G : Gl} {ad : Nat → Nat} {k : Nat} {fo fx fy : Nat → Int32} {E : Nat → va_E} {i c : Nat} (h : EDs G ad k fo fx fy E i c) (hc : c = anN k (fo i).toInt (fx i).toInt) : EDs G ad k fo fx fy E (i + 1) 0 := by
  obtain ⟨i51, el, eo, ex, ey, h1, h2, h3, h4, h5, h6, h7⟩ := h
  refine ⟨i51, el, eo, ex, ey, h1, ?_, h3, h4, h5, h6, fun l d hl => h7 l d ?_⟩
  · rw [h2, hc]; rfl
  · rcases hl with ⟨q1, q2⟩ | ⟨q1, q2⟩
    · by_cases e : l = i
      · subst e; exact Or.inr ⟨rfl, by omega⟩
      · exact Or.inl ⟨by omega, q2⟩
    · omega
def czN (own : Int) (z : Nat) : Nat := if (z : Int) ≤ own then z else z - 1
theorem cz_s {own : Int} {z : Nat} (h : (z : Int) ≠ own) (h0 : 0 ≤ own) : czN own (z + 1) = czN own z + 1 := by
  unfold czN
  split <;> split <;> omega
theorem cz_e {own : Int} {z : Nat} (h : (z : Int) = own) : czN own (z + 1) = czN own z := by
  unfold czN
  split <;> split <;> omega
theorem cz_skp {own : Int} {z : Nat} (h : (z : Int) ≠ own) (h0 : 0 ≤ own) : skp own (czN own z) = (z : Int) := by
  unfold skp czN
  split <;> split <;> omega
theorem cz_lt {own : Int} {z k : Nat} (h : (z : Int) ≠ own) (h0 : 0 ≤ own) (h1 : own < (k : Int)) (hz : z < k) : czN own z < k - 1 := by
  unfold czN
  split <;> omega
theorem cz_k {own : Int} {k : Nat} (h1 : own < (k : Int)) : czN own k = k - 1 := by
  unfold czN
  rw [if_neg (by omega)]
/-- a remainder and a quotient that go towards nought -/
theorem trem0 {x : Int32} {a : Int} (hx : x.toInt = a) (hb : -9999 ≤ a ∧ a ≤ 9999) : ∃ R : Int, Int32.toInt (x - x / 1440 * 1440) = R ∧ (R = 0 ↔ a % 1440 = 0) := by
  have h1 := ti_tdiv hx (show (1440 : Int32).toInt = 1440 by decide) (by decide)
  by_cases c : 0 ≤ a
  · rw [Int.tdiv_eq_ediv_of_nonneg c] at h1
    have h2 := ti_mul h1 (show (1440 : Int32).toInt = 1440 by decide) (by omega) (by omega)
    exact ⟨_, ti_sub hx h2 (by omega) (by omega), by omega⟩
  · rw [show a = -(-a) by omega, Int.neg_tdiv, Int.tdiv_eq_ediv_of_nonneg (by omega)] at h1
    have h2 := ti_mul h1 (show (1440 : Int32).toInt = 1440 by decide) (by omega) (by omega)
    exact ⟨_, ti_sub hx h2 (by omega) (by omega), by omega⟩
theorem tdiv0 {x : Int32} {a : Int} (hx : x.toInt = a) : ∃ Q : Int, Int32.toInt (x / 1440) = Q ∧ (a % 1440 = 0 → Q = a / 1440) := by
  have h1 := ti_tdiv hx (show (1440 : Int32).toInt = 1440 by decide) (by decide)
  by_cases c : 0 ≤ a
  · rw [Int.tdiv_eq_ediv_of_nonneg c] at h1
    exact ⟨_, h1, fun _ => rfl⟩
  · rw [show a = -(-a) by omega, Int.neg_tdiv, Int.tdiv_eq_ediv_of_nonneg (by omega)] at h1
    exact ⟨_, h1, fun q => by omega⟩
theorem an_4 {k : Nat} {x : Int} : anN k 4 x = k := rfl
theorem an_1 {k : Nat} {x : Int} : anN k 1 x = k - 1 := rfl
theorem an_7 {k : Nat} {x : Int} : anN k 7 x = 2 := rfl
theorem an_5y {k : Nat} {x : Int} (h : x ≠ 0 ∧ x % 1440 = 0) : anN k 5 x = 1 := by
  unfold anN; rw [if_neg (by decide), if_neg (by decide), if_pos rfl, if_pos h]
theorem an_5n {k : Nat} {x : Int} (h : ¬ (x ≠ 0 ∧ x % 1440 = 0)) : anN k 5 x = 0 := by
  unfold anN; rw [if_neg (by decide), if_neg (by decide), if_pos rfl, if_neg h]
theorem an_6y {k : Nat} {x : Int} (h : -6 ≤ x ∧ x ≤ 6) : anN k 6 x = 1 := by
  unfold anN; rw [if_neg (by decide), if_neg (by decide), if_neg (by decide), if_pos rfl, if_pos h]
theorem an_6n {k : Nat} {x : Int} (h : ¬ (-6 ≤ x ∧ x ≤ 6)) : anN k 6 x = 0 := by
  unfold anN; rw [if_neg (by decide), if_neg (by decide), if_neg (by decide), if_pos rfl, if_neg h]
theorem an_no {k : Nat} {o x : Int} (h : o ≠ 1 ∧ o ≠ 4 ∧ o ≠ 5 ∧ o ≠ 6 ∧ o ≠ 7) : anN k o x = 0 := by
  unfold anN; rw [if_neg (by omega), if_neg (by omega), if_neg (by omega), if_neg (by omega), if_neg (by omega)]
/-- TURN: the other y first, then the zones -/
theorem zn_4 {k : Nat} {x y : Int} (h0 : 0 ≤ x) (h1 : x < (k : Int)) : ∀ z : Nat, z < k → (z : Int) ≠ x → 1 + czN x z < anN k 4 x ∧ anX 4 x (1 + czN x z) = (z : Int) ∧ anY 4 y (1 + czN x z) = y := by
  intro z hz hne
  have h2 := cz_lt hne h0 h1 hz
  refine ⟨by rw [an_4]; omega, ?_, ?_⟩
  · unfold anX; rw [if_pos rfl, if_neg (by omega), show 1 + czN x z - 1 = czN x z by omega]; exact cz_skp hne h0
  · unfold anY; rw [if_pos rfl, if_neg (by omega)]
theorem zn_1 {k : Nat} {x y : Int} (h0 : 0 ≤ x) (h1 : x < (k : Int)) : ∀ z : Nat, z < k → (z : Int) ≠ x → 0 + czN x z < anN k 1 x ∧ anX 1 x (0 + czN x z) = (z : Int) ∧ anY 1 y (0 + czN x z) = y := by
  intro z hz hne
  have h2 := cz_lt hne h0 h1 hz
  refine ⟨by rw [an_1]; omega, ?_, ?_⟩
  · unfold anX; rw [if_neg (by decide), if_pos rfl, show 0 + czN x z = czN x z by omega]; exact cz_skp hne h0
  · unfold anY; rw [if_neg (by decide), if_neg (by decide)]
theorem en_7 {k : Nat} {x y : Int} (h0 : 0 ≤ y) (h1 : y ≤ 2) : ∀ z : Nat, z < 3 → (z : Int) ≠ y → czN y z < anN k 7 x ∧ anX 7 x (czN y z) = x ∧ anY 7 y (czN y z) = (z : Int) := by
  intro z hz hne
  have h2 := cz_lt (k := 3) hne h0 (by omega) hz
  refine ⟨by rw [an_7]; omega, ?_, ?_⟩
  · unfold anX; rw [if_neg (by decide), if_neg (by decide), if_neg (by decide), if_neg (by decide)]
  · unfold anY; rw [if_neg (by decide), if_pos rfl]; exact cz_skp hne h0
