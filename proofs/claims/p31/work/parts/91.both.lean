set_option maxRecDepth 20000 in
theorem a_changes (l : Launch) (G : Gl) (ad : Nat → Nat) {k : Nat} {ic md : Nat → Int32} {td kn : Int32} {fl : Nat → Int32} {E : Nat → va_E} (h8 : C8 G ad k ic md td kn fl E) (h9 : R9 G ad (98 + 9 * k) k ic md td kn fl E) (x1 : Int32) : CtI l G yX8_changes cX8_changes 3 .int 4 95 (98 + 9 * k) ad E [.ref (ad 0), .int x1] (fun r E' => C8 G ad k ic md td kn fl E' ∧ R9 G ad (98 + 9 * k) k ic md td kn fl E') := by
  exact (t_X8_changes l G ad h8.1 x1).mono (fun r E' hp => ⟨h8.step hp.2, h9.cls hp.2.rest⟩)
set_option maxRecDepth 20000 in
theorem a_change (l : Launch) (G : Gl) (ad : Nat → Nat) {k : Nat} {ic md : Nat → Int32} {td kn : Int32} {fl : Nat → Int32} {E : Nat → va_E} (h8 : C8 G ad k ic md td kn fl E) (h9 : R9 G ad (98 + 9 * k) k ic md td kn fl E) (x1 x2 : Int32) : CtI l G yX8_change cX8_change 4 .int 4 95 (98 + 9 * k) ad E [.ref (ad 0), .int x1, .int x2] (fun r E' => C8 G ad k ic md td kn fl E' ∧ R9 G ad (98 + 9 * k) k ic md td kn fl E') := by
  exact (t_X8_change l G ad h8.1 x1 x2).mono (fun r E' hp => ⟨h8.step hp.2, h9.cls hp.2.rest⟩)
set_option maxRecDepth 20000 in
theorem a_offset (l : Launch) (G : Gl) (ad : Nat → Nat) {k : Nat} {ic md : Nat → Int32} {td kn : Int32} {fl : Nat → Int32} {E : Nat → va_E} (h8 : C8 G ad k ic md td kn fl E) (h9 : R9 G ad (98 + 9 * k) k ic md td kn fl E) (x1 x2 : Int32) : CtI l G yX8_offset cX8_offset 4 .int 4 95 (98 + 9 * k) ad E [.ref (ad 0), .int x1, .int x2] (fun r E' => C8 G ad k ic md td kn fl E' ∧ R9 G ad (98 + 9 * k) k ic md td kn fl E') := by
  exact (t_X8_offset l G ad h8.1 x1 x2).mono (fun r E' hp => ⟨h8.step hp.2, h9.cls hp.2.rest⟩)
set_option maxRecDepth 20000 in
theorem a_wall (l : Launch) (G : Gl) (ad : Nat → Nat) {k : Nat} {ic md : Nat → Int32} {td kn : Int32} {fl : Nat → Int32} {E : Nat → va_E} (h8 : C8 G ad k ic md td kn fl E) (h9 : R9 G ad (98 + 9 * k) k ic md td kn fl E) (x1 x2 : Int32) : CtI l G yX8_wall cX8_wall 5 .int 4 95 (98 + 9 * k) ad E [.ref (ad 0), .int x1, .int x2] (fun r E' => C8 G ad k ic md td kn fl E' ∧ R9 G ad (98 + 9 * k) k ic md td kn fl E') := by
  exact (t_X8_wall l G ad h8.1 x1 x2).mono (fun r E' hp => ⟨h8.step hp.2, h9.cls hp.2.rest⟩)
set_option maxRecDepth 20000 in
theorem a_moments (l : Launch) (G : Gl) (ad : Nat → Nat) {k : Nat} {ic md : Nat → Int32} {td kn : Int32} {fl : Nat → Int32} {E : Nat → va_E} (h8 : C8 G ad k ic md td kn fl E) (h9 : R9 G ad (98 + 9 * k) k ic md td kn fl E) (x1 x2 : Int32) : CtI l G yX8_moments cX8_moments 4 .int 4 95 (98 + 9 * k) ad E [.ref (ad 0), .int x1, .int x2] (fun r E' => C8 G ad k ic md td kn fl E' ∧ R9 G ad (98 + 9 * k) k ic md td kn fl E') := by
  exact (t_X8_moments l G ad h8.1 x1 x2).mono (fun r E' hp => ⟨h8.step hp.2, h9.cls hp.2.rest⟩)
set_option maxRecDepth 20000 in
theorem a_moment (l : Launch) (G : Gl) (ad : Nat → Nat) {k : Nat} {ic md : Nat → Int32} {td kn : Int32} {fl : Nat → Int32} {E : Nat → va_E} (h8 : C8 G ad k ic md td kn fl E) (h9 : R9 G ad (98 + 9 * k) k ic md td kn fl E) (x1 x2 x3 : Int32) : CtI l G yX8_moment cX8_moment 6 .int 4 95 (98 + 9 * k) ad E [.ref (ad 0), .int x1, .int x2, .int x3] (fun r E' => C8 G ad k ic md td kn fl E' ∧ R9 G ad (98 + 9 * k) k ic md td kn fl E') := by
  exact (t_X8_moment l G ad h8.1 x1 x2 x3).mono (fun r E' hp => ⟨h8.step hp.2, h9.cls hp.2.rest⟩)
set_option maxRecDepth 20000 in
theorem a_mix (l : Launch) (G : Gl) (ad : Nat → Nat) {k : Nat} {ic md : Nat → Int32} {td kn : Int32} {fl : Nat → Int32} {E : Nat → va_E} (h8 : C8 G ad k ic md td kn fl E) (h9 : R9 G ad (98 + 9 * k) k ic md td kn fl E) (x1 : Int32) : CtI l G yX8_mix cX8_mix 3 .int 1 21 (98 + 9 * k) ad E [.ref (ad 0), .int x1] (fun r E' => C8 G ad k ic md td kn fl E' ∧ R9 G ad (98 + 9 * k) k ic md td kn fl E') := by
  exact (t_X8_mix l G ad h8.1 x1).mono (fun r E' hp => by obtain ⟨-, rfl⟩ := hp; exact ⟨h8, h9⟩)
set_option maxRecDepth 20000 in
theorem a_kind (l : Launch) (G : Gl) (ad : Nat → Nat) {k : Nat} {ic md : Nat → Int32} {td kn : Int32} {fl : Nat → Int32} {E : Nat → va_E} (h8 : C8 G ad k ic md td kn fl E) (h9 : R9 G ad (98 + 9 * k) k ic md td kn fl E) (x1 : Int32) : CtI l G yX8_kind cX8_kind 3 .int 1 21 (98 + 9 * k) ad E [.ref (ad 0), .int x1] (fun r E' => C8 G ad k ic md td kn fl E' ∧ R9 G ad (98 + 9 * k) k ic md td kn fl E') := by
  exact (t_X8_kind l G ad h8.1 x1).mono (fun r E' hp => by obtain ⟨-, rfl⟩ := hp; exact ⟨h8, h9⟩)
set_option maxRecDepth 20000 in
theorem a_run (l : Launch) (G : Gl) (ad : Nat → Nat) {k : Nat} {ic md : Nat → Int32} {td kn : Int32} {fl : Nat → Int32} {E : Nat → va_E} (h8 : C8 G ad k ic md td kn fl E) (h9 : R9 G ad (98 + 9 * k) k ic md td kn fl E) (x1 x2 : Int32) : CtI l G yX8_run cX8_run 4 .int 5 124 (98 + 9 * k) ad E [.ref (ad 0), .int x1, .int x2] (fun r E' => C8 G ad k ic md td kn fl E' ∧ R9 G ad (98 + 9 * k) k ic md td kn fl E') := by
  exact (t_X8_run l G ad h8.1 x1 x2).mono (fun r E' hp => ⟨h8.step hp.2, h9.cls hp.2.rest⟩)
set_option maxRecDepth 20000 in
theorem a_keeps (l : Launch) (G : Gl) (ad : Nat → Nat) {k : Nat} {ic md : Nat → Int32} {td kn : Int32} {fl : Nat → Int32} {E : Nat → va_E} (h8 : C8 G ad k ic md td kn fl E) (h9 : R9 G ad (98 + 9 * k) k ic md td kn fl E) (x1 x2 x3 x4 : Int32) : CtI l G yX8_keeps cX8_keeps 6 .int 5 124 (98 + 9 * k) ad E [.ref (ad 0), .int x1, .int x2, .int x3, .int x4] (fun r E' => C8 G ad k ic md td kn fl E' ∧ R9 G ad (98 + 9 * k) k ic md td kn fl E') := by
  exact (t_X8_keeps l G ad h8.1 x1 x2 x3 x4).mono (fun r E' hp => ⟨h8.step hp.2, h9.cls hp.2.rest⟩)
set_option maxRecDepth 20000 in
theorem a_odds (l : Launch) (G : Gl) (ad : Nat → Nat) {k : Nat} {ic md : Nat → Int32} {td kn : Int32} {fl : Nat → Int32} {E : Nat → va_E} (h8 : C8 G ad k ic md td kn fl E) (h9 : R9 G ad (98 + 9 * k) k ic md td kn fl E) (x1 x2 : Int32) : CtI l G yX8_odds cX8_odds 3 .int 5 124 (98 + 9 * k) ad E [.ref (ad 0), .int x1, .int x2] (fun r E' => C8 G ad k ic md td kn fl E' ∧ R9 G ad (98 + 9 * k) k ic md td kn fl E') := by
  exact (t_X8_odds l G ad h8.1 x1 x2).mono (fun r E' hp => ⟨h8.step hp.2, h9.cls hp.2.rest⟩)
set_option maxRecDepth 20000 in
theorem a_odd (l : Launch) (G : Gl) (ad : Nat → Nat) {k : Nat} {ic md : Nat → Int32} {td kn : Int32} {fl : Nat → Int32} {E : Nat → va_E} (h8 : C8 G ad k ic md td kn fl E) (h9 : R9 G ad (98 + 9 * k) k ic md td kn fl E) (x1 x2 x3 : Int32) : CtI l G yX8_odd cX8_odd 4 .int 5 124 (98 + 9 * k) ad E [.ref (ad 0), .int x1, .int x2, .int x3] (fun r E' => C8 G ad k ic md td kn fl E' ∧ R9 G ad (98 + 9 * k) k ic md td kn fl E') := by
  exact (t_X8_odd l G ad h8.1 x1 x2 x3).mono (fun r E' hp => ⟨h8.step hp.2, h9.cls hp.2.rest⟩)
set_option maxRecDepth 20000 in
theorem a_least (l : Launch) (G : Gl) (ad : Nat → Nat) {k : Nat} {ic md : Nat → Int32} {td kn : Int32} {fl : Nat → Int32} {E : Nat → va_E} (h8 : C8 G ad k ic md td kn fl E) (h9 : R9 G ad (98 + 9 * k) k ic md td kn fl E) (x1 x2 x3 x4 x5 : Int32) : CtI l G yX8_least cX8_least 8 .int 6 147 (98 + 9 * k) ad E [.ref (ad 0), .int x1, .int x2, .int x3, .int x4, .int x5] (fun r E' => C8 G ad k ic md td kn fl E' ∧ R9 G ad (98 + 9 * k) k ic md td kn fl E') := by
  exact (t_X8_least l G ad h8.1 x1 x2 x3 x4 x5).mono (fun r E' hp => ⟨h8.step hp.2, h9.cls hp.2.rest⟩)
set_option maxRecDepth 20000 in
theorem a_mend (l : Launch) (G : Gl) (ad : Nat → Nat) {k : Nat} {ic md : Nat → Int32} {td kn : Int32} {fl : Nat → Int32} {E : Nat → va_E} (h8 : C8 G ad k ic md td kn fl E) (h9 : R9 G ad (98 + 9 * k) k ic md td kn fl E) (x1 x2 x3 x4 x5 : Int32) : CtI l G yX8_mend cX8_mend 8 .int 7 170 (98 + 9 * k) ad E [.ref (ad 0), .int x1, .int x2, .int x3, .int x4, .int x5] (fun r E' => C8 G ad k ic md td kn fl E' ∧ R9 G ad (98 + 9 * k) k ic md td kn fl E') := by
  exact (t_X8_mend l G ad h8.1 x1 x2 x3 x4 x5).mono (fun r E' hp => ⟨h8.step hp.2, h9.cls hp.2.rest⟩)
set_option maxRecDepth 20000 in
theorem a_mended (l : Launch) (G : Gl) (ad : Nat → Nat) {k : Nat} {ic md : Nat → Int32} {td kn : Int32} {fl : Nat → Int32} {E : Nat → va_E} (h8 : C8 G ad k ic md td kn fl E) (h9 : R9 G ad (98 + 9 * k) k ic md td kn fl E) (x1 x2 : Int32) : CtI l G yX8_mended cX8_mended 4 .int 0 0 (98 + 9 * k) ad E [.ref (ad 0), .int x1, .int x2] (fun r E' => C8 G ad k ic md td kn fl E' ∧ R9 G ad (98 + 9 * k) k ic md td kn fl E') := by
  exact (t_X8_mended l G ad h8.1 x1 x2).mono (fun r E' hp => by obtain ⟨-, rfl⟩ := hp; exact ⟨h8, h9⟩)
set_option maxRecDepth 20000 in
theorem a_rule (l : Launch) (G : Gl) (ad : Nat → Nat) {k : Nat} {ic md : Nat → Int32} {td kn : Int32} {fl : Nat → Int32} {E : Nat → va_E} (h8 : C8 G ad k ic md td kn fl E) (h9 : R9 G ad (98 + 9 * k) k ic md td kn fl E) (x1 x2 x3 x4 x5 : Int32) : CtI l G yX8_rule cX8_rule 13 .int 4 92 (98 + 9 * k) ad E [.ref (ad 0), .int x1, .int x2, .int x3, .int x4, .int x5] (fun r E' => C8 G ad k ic md td kn fl E' ∧ R9 G ad (98 + 9 * k) k ic md td kn fl E') := by
  exact (t_X8_rule l G ad h8.1 x1 x2 x3 x4 x5).mono (fun r E' hp => ⟨h8.step hp.2, h9.cls hp.2.rest⟩)
set_option maxRecDepth 20000 in
theorem a_meetings (l : Launch) (G : Gl) (ad : Nat → Nat) {k : Nat} {ic md : Nat → Int32} {td kn : Int32} {fl : Nat → Int32} {E : Nat → va_E} (h8 : C8 G ad k ic md td kn fl E) (h9 : R9 G ad (98 + 9 * k) k ic md td kn fl E) (x1 x2 x3 x4 x5 : Int32) : CtI l G yX8_meetings cX8_meetings 12 .int 4 95 (98 + 9 * k) ad E [.ref (ad 0), .int x1, .int x2, .int x3, .int x4, .int x5] (fun r E' => C8 G ad k ic md td kn fl E' ∧ R9 G ad (98 + 9 * k) k ic md td kn fl E') := by
  exact (t_X8_meetings l G ad h8.1 x1 x2 x3 x4 x5).mono (fun r E' hp => ⟨h8.step hp.2, h9.cls hp.2.rest⟩)
set_option maxRecDepth 20000 in
theorem b_changes (l : Launch) (G : Gl) (ad : Nat → Nat) {n k k0 : Nat} {ic md ic0 md0 : Nat → Int32} {td kn td0 kn0 : Int32} {fl fl0 : Nat → Int32} {E : Nat → va_E} (h8 : C8 G ad k0 ic0 md0 td0 kn0 fl0 E) (h9 : R9 G ad n k ic md td kn fl E) (x1 : Int32) : CtI l G yX9_changes cX9_changes 2 .int 4 96 (n) ad E [.ref (ad 68), .int x1] (fun r E' => C8 G ad k0 ic0 md0 td0 kn0 fl0 E' ∧ R9 G ad n k ic md td kn fl E') := by
  exact (t_X9_changes l G ad h9.1.self x1).mono (fun r E' hp => ⟨h8.ref hp.2.pt.rest, h9.step hp.2.pt⟩)
set_option maxRecDepth 20000 in
theorem b_change (l : Launch) (G : Gl) (ad : Nat → Nat) {n k k0 : Nat} {ic md ic0 md0 : Nat → Int32} {td kn td0 kn0 : Int32} {fl fl0 : Nat → Int32} {E : Nat → va_E} (h8 : C8 G ad k0 ic0 md0 td0 kn0 fl0 E) (h9 : R9 G ad n k ic md td kn fl E) (x1 x2 : Int32) : CtI l G yX9_change cX9_change 3 .int 5 117 (n) ad E [.ref (ad 68), .int x1, .int x2] (fun r E' => C8 G ad k0 ic0 md0 td0 kn0 fl0 E' ∧ R9 G ad n k ic md td kn fl E') := by
  exact (t_X9_change l G ad h9.1.self x1 x2).mono (fun r E' hp => ⟨h8.ref hp.2.pt.rest, h9.step hp.2.pt⟩)
set_option maxRecDepth 20000 in
theorem b_offset (l : Launch) (G : Gl) (ad : Nat → Nat) {n k k0 : Nat} {ic md ic0 md0 : Nat → Int32} {td kn td0 kn0 : Int32} {fl fl0 : Nat → Int32} {E : Nat → va_E} (h8 : C8 G ad k0 ic0 md0 td0 kn0 fl0 E) (h9 : R9 G ad n k ic md td kn fl E) (x1 x2 : Int32) : CtI l G yX9_offset cX9_offset 3 .int 5 121 (n) ad E [.ref (ad 68), .int x1, .int x2] (fun r E' => C8 G ad k0 ic0 md0 td0 kn0 fl0 E' ∧ R9 G ad n k ic md td kn fl E') := by
  exact (t_X9_offset l G ad h9.1.self x1 x2).mono (fun r E' hp => ⟨h8.ref hp.2.pt.rest, h9.step hp.2.pt⟩)
set_option maxRecDepth 20000 in
theorem b_wall (l : Launch) (G : Gl) (ad : Nat → Nat) {n k k0 : Nat} {ic md ic0 md0 : Nat → Int32} {td kn td0 kn0 : Int32} {fl fl0 : Nat → Int32} {E : Nat → va_E} (h8 : C8 G ad k0 ic0 md0 td0 kn0 fl0 E) (h9 : R9 G ad n k ic md td kn fl E) (x1 x2 : Int32) : CtI l G yX9_wall cX9_wall 4 .int 5 121 (n) ad E [.ref (ad 68), .int x1, .int x2] (fun r E' => C8 G ad k0 ic0 md0 td0 kn0 fl0 E' ∧ R9 G ad n k ic md td kn fl E') := by
  exact (t_X9_wall l G ad h9.1.self x1 x2).mono (fun r E' hp => ⟨h8.ref hp.2.pt.rest, h9.step hp.2.pt⟩)
set_option maxRecDepth 20000 in
theorem b_moments (l : Launch) (G : Gl) (ad : Nat → Nat) {n k k0 : Nat} {ic md ic0 md0 : Nat → Int32} {td kn td0 kn0 : Int32} {fl fl0 : Nat → Int32} {E : Nat → va_E} (h8 : C8 G ad k0 ic0 md0 td0 kn0 fl0 E) (h9 : R9 G ad n k ic md td kn fl E) (x1 x2 : Int32) : CtI l G yX9_moments cX9_moments 3 .int 5 122 (n) ad E [.ref (ad 68), .int x1, .int x2] (fun r E' => C8 G ad k0 ic0 md0 td0 kn0 fl0 E' ∧ R9 G ad n k ic md td kn fl E') := by
  exact (t_X9_moments l G ad h9.1.self x1 x2).mono (fun r E' hp => ⟨h8.ref hp.2.pt.rest, h9.step hp.2.pt⟩)
set_option maxRecDepth 20000 in
theorem b_moment (l : Launch) (G : Gl) (ad : Nat → Nat) {n k k0 : Nat} {ic md ic0 md0 : Nat → Int32} {td kn td0 kn0 : Int32} {fl fl0 : Nat → Int32} {E : Nat → va_E} (h8 : C8 G ad k0 ic0 md0 td0 kn0 fl0 E) (h9 : R9 G ad n k ic md td kn fl E) (x1 x2 x3 : Int32) : CtI l G yX9_moment cX9_moment 5 .int 5 122 (n) ad E [.ref (ad 68), .int x1, .int x2, .int x3] (fun r E' => C8 G ad k0 ic0 md0 td0 kn0 fl0 E' ∧ R9 G ad n k ic md td kn fl E') := by
  exact (t_X9_moment l G ad h9.1.self x1 x2 x3).mono (fun r E' hp => ⟨h8.ref hp.2.pt.rest, h9.step hp.2.pt⟩)
set_option maxRecDepth 20000 in
theorem b_mix (l : Launch) (G : Gl) (ad : Nat → Nat) {n k k0 : Nat} {ic md ic0 md0 : Nat → Int32} {td kn td0 kn0 : Int32} {fl fl0 : Nat → Int32} {E : Nat → va_E} (h8 : C8 G ad k0 ic0 md0 td0 kn0 fl0 E) (h9 : R9 G ad n k ic md td kn fl E) (x1 : Int32) : CtI l G yX9_mix cX9_mix 2 .int 4 86 (n) ad E [.ref (ad 68), .int x1] (fun r E' => C8 G ad k0 ic0 md0 td0 kn0 fl0 E' ∧ R9 G ad n k ic md td kn fl E') := by
  obtain ⟨gop, gx, gy, e1, e2, e3, e4, h5⟩ := h9.2
  exact (t_X9_mix l G ad h9.1 e1 e2 e3 e4 h9.bl h5 (show ((0 : Int) ≤ 0 ∧ (10 : Int) ≤ 10) ∧ ((0 : Int) ≤ 0 ∧ (10 : Int) ≤ 10) by decide) (show ((0 : Int) ≤ 0 ∧ (8 : Int) ≤ 8) ∧ ((0 : Int) ≤ 0 ∧ (8 : Int) ≤ 8) by decide) x1).mono (fun r E' hp => ⟨h8.ref hp.2.rest, h9.step hp.2⟩)
set_option maxRecDepth 20000 in
theorem b_kind (l : Launch) (G : Gl) (ad : Nat → Nat) {n k k0 : Nat} {ic md ic0 md0 : Nat → Int32} {td kn td0 kn0 : Int32} {fl fl0 : Nat → Int32} {E : Nat → va_E} (h8 : C8 G ad k0 ic0 md0 td0 kn0 fl0 E) (h9 : R9 G ad n k ic md td kn fl E) (x1 : Int32) : CtI l G yX9_kind cX9_kind 2 .int 4 86 (n) ad E [.ref (ad 68), .int x1] (fun r E' => C8 G ad k0 ic0 md0 td0 kn0 fl0 E' ∧ R9 G ad n k ic md td kn fl E') := by
  obtain ⟨gop, gx, gy, e1, e2, e3, e4, h5⟩ := h9.2
  exact (t_X9_kind l G ad h9.1 e1 e2 e3 e4 h9.bl h5 (show ((0 : Int) ≤ 0 ∧ (10 : Int) ≤ 10) ∧ ((0 : Int) ≤ 0 ∧ (10 : Int) ≤ 10) by decide) (show ((0 : Int) ≤ 0 ∧ (8 : Int) ≤ 8) ∧ ((0 : Int) ≤ 0 ∧ (8 : Int) ≤ 8) by decide) x1).mono (fun r E' hp => ⟨h8.ref hp.2.rest, h9.step hp.2⟩)
set_option maxRecDepth 20000 in
theorem b_run (l : Launch) (G : Gl) (ad : Nat → Nat) {n k k0 : Nat} {ic md ic0 md0 : Nat → Int32} {td kn td0 kn0 : Int32} {fl fl0 : Nat → Int32} {E : Nat → va_E} (h8 : C8 G ad k0 ic0 md0 td0 kn0 fl0 E) (h9 : R9 G ad n k ic md td kn fl E) (x1 x2 : Int32) : CtI l G yX9_run cX9_run 3 .int 8 197 (n) ad E [.ref (ad 68), .int x1, .int x2] (fun r E' => C8 G ad k0 ic0 md0 td0 kn0 fl0 E' ∧ R9 G ad n k ic md td kn fl E') := by
  obtain ⟨gop, gx, gy, e1, e2, e3, e4, h5⟩ := h9.2
  exact (t_X9_run l G ad h9.1 e1 e2 e3 e4 h9.bl h5 (show ((0 : Int) ≤ 0 ∧ (10 : Int) ≤ 10) ∧ ((0 : Int) ≤ 0 ∧ (10 : Int) ≤ 10) by decide) (show ((0 : Int) ≤ 0 ∧ (8 : Int) ≤ 8) ∧ ((0 : Int) ≤ 0 ∧ (8 : Int) ≤ 8) by decide) x1 x2).mono (fun r E' hp => ⟨h8.ref hp.2.rest, h9.step hp.2⟩)
set_option maxRecDepth 20000 in
theorem b_keeps (l : Launch) (G : Gl) (ad : Nat → Nat) {n k k0 : Nat} {ic md ic0 md0 : Nat → Int32} {td kn td0 kn0 : Int32} {fl fl0 : Nat → Int32} {E : Nat → va_E} (h8 : C8 G ad k0 ic0 md0 td0 kn0 fl0 E) (h9 : R9 G ad n k ic md td kn fl E) (x1 x2 x3 x4 : Int32) : CtI l G yX9_keeps cX9_keeps 5 .int 9 223 (n) ad E [.ref (ad 68), .int x1, .int x2, .int x3, .int x4] (fun r E' => C8 G ad k0 ic0 md0 td0 kn0 fl0 E' ∧ R9 G ad n k ic md td kn fl E') := by
  obtain ⟨gop, gx, gy, e1, e2, e3, e4, h5⟩ := h9.2
  exact (t_X9_keeps l G ad h9.1 e1 e2 e3 e4 h9.bl h5 (show ((0 : Int) ≤ 0 ∧ (10 : Int) ≤ 10) ∧ ((0 : Int) ≤ 0 ∧ (10 : Int) ≤ 10) by decide) (show ((0 : Int) ≤ 0 ∧ (8 : Int) ≤ 8) ∧ ((0 : Int) ≤ 0 ∧ (8 : Int) ≤ 8) by decide) x1 x2 x3 x4).mono (fun r E' hp => ⟨h8.ref hp.2.rest, h9.step hp.2⟩)
set_option maxRecDepth 20000 in
theorem b_odds (l : Launch) (G : Gl) (ad : Nat → Nat) {n k k0 : Nat} {ic md ic0 md0 : Nat → Int32} {td kn td0 kn0 : Int32} {fl fl0 : Nat → Int32} {E : Nat → va_E} (h8 : C8 G ad k0 ic0 md0 td0 kn0 fl0 E) (h9 : R9 G ad n k ic md td kn fl E) (x1 x2 : Int32) : CtI l G yX9_odds cX9_odds 3 .int 6 150 (n) ad E [.ref (ad 68), .int x1, .int x2] (fun r E' => C8 G ad k0 ic0 md0 td0 kn0 fl0 E' ∧ R9 G ad n k ic md td kn fl E') := by
  exact (t_X9_odds l G ad h9.1.self (show ((0 : Int) ≤ 0 ∧ (40000 : Int) ≤ 40000) ∧ ((0 : Int) ≤ 0 ∧ (40000 : Int) ≤ 40000) by decide) x1 x2).mono (fun r E' hp => ⟨h8.ref hp.2.pt.rest, h9.step hp.2.pt⟩)
set_option maxRecDepth 20000 in
theorem b_odd (l : Launch) (G : Gl) (ad : Nat → Nat) {n k k0 : Nat} {ic md ic0 md0 : Nat → Int32} {td kn td0 kn0 : Int32} {fl fl0 : Nat → Int32} {E : Nat → va_E} (h8 : C8 G ad k0 ic0 md0 td0 kn0 fl0 E) (h9 : R9 G ad n k ic md td kn fl E) (x1 x2 x3 : Int32) : CtI l G yX9_odd cX9_odd 4 .int 6 150 (n) ad E [.ref (ad 68), .int x1, .int x2, .int x3] (fun r E' => C8 G ad k0 ic0 md0 td0 kn0 fl0 E' ∧ R9 G ad n k ic md td kn fl E') := by
  exact (t_X9_odd l G ad h9.1.self (show ((0 : Int) ≤ 0 ∧ (40000 : Int) ≤ 40000) ∧ ((0 : Int) ≤ 0 ∧ (40000 : Int) ≤ 40000) by decide) x1 x2 x3).mono (fun r E' hp => ⟨h8.ref hp.2.pt.rest, h9.step hp.2.pt⟩)
set_option maxRecDepth 20000 in
theorem b_least (l : Launch) (G : Gl) (ad : Nat → Nat) {n k k0 : Nat} {ic md ic0 md0 : Nat → Int32} {td kn td0 kn0 : Int32} {fl fl0 : Nat → Int32} {E : Nat → va_E} (h8 : C8 G ad k0 ic0 md0 td0 kn0 fl0 E) (h9 : R9 G ad n k ic md td kn fl E) (x1 x2 x3 x4 x5 : Int32) : CtI l G yX9_least cX9_least 6 .int 10 246 (n) ad E [.ref (ad 68), .int x1, .int x2, .int x3, .int x4, .int x5] (fun r E' => C8 G ad k0 ic0 md0 td0 kn0 fl0 E' ∧ R9 G ad n k ic md td kn fl E') := by
  obtain ⟨gop, gx, gy, e1, e2, e3, e4, h5⟩ := h9.2
  exact (t_X9_least l G ad h9.1 e1 e2 e3 e4 h9.bl h5 (show ((0 : Int) ≤ 0 ∧ (10 : Int) ≤ 10) ∧ ((0 : Int) ≤ 0 ∧ (10 : Int) ≤ 10) by decide) (show ((0 : Int) ≤ 0 ∧ (8 : Int) ≤ 8) ∧ ((0 : Int) ≤ 0 ∧ (8 : Int) ≤ 8) by decide) (show ((0 : Int) ≤ 0 ∧ (40000 : Int) ≤ 40000) ∧ ((0 : Int) ≤ 0 ∧ (40000 : Int) ≤ 40000) by decide) x1 x2 x3 x4 x5).mono (fun r E' hp => ⟨h8.ref hp.2.rest, h9.step hp.2⟩)
set_option maxRecDepth 20000 in
theorem b_mend (l : Launch) (G : Gl) (ad : Nat → Nat) {n k k0 : Nat} {ic md ic0 md0 : Nat → Int32} {td kn td0 kn0 : Int32} {fl fl0 : Nat → Int32} {E : Nat → va_E} (h8 : C8 G ad k0 ic0 md0 td0 kn0 fl0 E) (h9 : R9 G ad n k ic md td kn fl E) (x1 x2 x3 x4 x5 : Int32) : CtI l G yX9_mend cX9_mend 7 .int 12 298 (n) ad E [.ref (ad 68), .int x1, .int x2, .int x3, .int x4, .int x5] (fun r E' => C8 G ad k0 ic0 md0 td0 kn0 fl0 E' ∧ R9 G ad n k ic md td kn fl E') := by
  obtain ⟨gop, gx, gy, e1, e2, e3, e4, h5⟩ := h9.2
  exact (t_X9_mend l G ad h9.1 e1 e2 e3 e4 h9.bl h5 (show ((0 : Int) ≤ 0 ∧ (10 : Int) ≤ 10) ∧ ((0 : Int) ≤ 0 ∧ (10 : Int) ≤ 10) by decide) (show ((0 : Int) ≤ 0 ∧ (8 : Int) ≤ 8) ∧ ((0 : Int) ≤ 0 ∧ (8 : Int) ≤ 8) by decide) (show ((0 : Int) ≤ 0 ∧ (40000 : Int) ≤ 40000) ∧ ((0 : Int) ≤ 0 ∧ (40000 : Int) ≤ 40000) by decide) (show ((0 : Int) ≤ 0 ∧ (10 : Int) ≤ 10) ∧ ((0 : Int) ≤ 0 ∧ (10 : Int) ≤ 10) by decide) x1 x2 x3 x4 x5).mono (fun r E' hp => ⟨h8.ref hp.2.rest, h9.step hp.2⟩)
set_option maxRecDepth 20000 in
theorem b_mended (l : Launch) (G : Gl) (ad : Nat → Nat) {n k k0 : Nat} {ic md ic0 md0 : Nat → Int32} {td kn td0 kn0 : Int32} {fl fl0 : Nat → Int32} {E : Nat → va_E} (h8 : C8 G ad k0 ic0 md0 td0 kn0 fl0 E) (h9 : R9 G ad n k ic md td kn fl E) (x1 x2 : Int32) : CtI l G yX9_mended cX9_mended 3 .int 1 22 (n) ad E [.ref (ad 68), .int x1, .int x2] (fun r E' => C8 G ad k0 ic0 md0 td0 kn0 fl0 E' ∧ R9 G ad n k ic md td kn fl E') := by
  exact (t_X9_mended l G ad h9.1.self (show (0 : Int) ≤ 0 ∧ (10 : Int) ≤ 10 by decide) x1 x2).mono (fun r E' hp => by obtain ⟨-, rfl⟩ := hp; exact ⟨h8, h9⟩)
set_option maxRecDepth 20000 in
theorem b_rule (l : Launch) (G : Gl) (ad : Nat → Nat) {n k k0 : Nat} {ic md ic0 md0 : Nat → Int32} {td kn td0 kn0 : Int32} {fl fl0 : Nat → Int32} {E : Nat → va_E} (h8 : C8 G ad k0 ic0 md0 td0 kn0 fl0 E) (h9 : R9 G ad n k ic md td kn fl E) (x1 x2 x3 x4 x5 : Int32) : CtI l G yX9_rule cX9_rule 7 .int 1 22 (n) ad E [.ref (ad 68), .int x1, .int x2, .int x3, .int x4, .int x5] (fun r E' => C8 G ad k0 ic0 md0 td0 kn0 fl0 E' ∧ R9 G ad n k ic md td kn fl E') := by
  exact (t_X9_rule l G ad h9.1.selfU x1 x2 x3 x4 x5).mono (fun r E' hp => ⟨h8.ref hp.2.restU, h9.stepU hp.2⟩)
set_option maxRecDepth 20000 in
theorem b_meetings (l : Launch) (G : Gl) (ad : Nat → Nat) {n k k0 : Nat} {ic md ic0 md0 : Nat → Int32} {td kn td0 kn0 : Int32} {fl fl0 : Nat → Int32} {E : Nat → va_E} (h8 : C8 G ad k0 ic0 md0 td0 kn0 fl0 E) (h9 : R9 G ad n k ic md td kn fl E) (x1 x2 x3 x4 x5 : Int32) : CtI l G yX9_meetings cX9_meetings 9 .int 5 122 (n) ad E [.ref (ad 68), .int x1, .int x2, .int x3, .int x4, .int x5] (fun r E' => C8 G ad k0 ic0 md0 td0 kn0 fl0 E' ∧ R9 G ad n k ic md td kn fl E') := by
  exact (t_X9_meetings l G ad h9.1.self x1 x2 x3 x4 x5).mono (fun r E' hp => ⟨h8.ref hp.2.pt.rest, h9.step hp.2.pt⟩)
set_option maxRecDepth 20000 in
theorem a_day (l : Launch) (G : Gl) (ad : Nat → Nat) {k : Nat} {ic md : Nat → Int32} {td kn : Int32} {fl : Nat → Int32} {E : Nat → va_E} (h8 : C8 G ad k ic md td kn fl E) (h9 : R9 G ad (98 + 9 * k) k ic md td kn fl E) (x1 x2 : Int32) : CtI l G yX8_day cX8_day 5 .int 1 22 (98 + 9 * k) ad E [.ref (ad 0), .int x1, .int x2] (fun r E' => r.toInt = DYf ic md x1.toInt x2.toInt ∧ C8 G ad k ic md td kn fl E' ∧ R9 G ad (98 + 9 * k) k ic md td kn fl E') := by
  obtain ⟨ms, ld, ys, hE1, hE2, hE3, hE4, hE5, hP, hF⟩ := h8.2.1
  obtain ⟨io, hE0, h6, h7⟩ := h8.2.2.1
  obtain ⟨iz, hE6, hz⟩ := h8.z6
  exact (c_day l G _ ad E (by omega) hE1 hE2 hE3 hE4 hE5 hP hF (by omega) hE0 hE6 x1 x2).mono (fun r E' hp => by obtain ⟨hr, rfl⟩ := hp; exact ⟨hr, h8, h9⟩)
set_option maxRecDepth 20000 in
theorem b_day (l : Launch) (G : Gl) (ad : Nat → Nat) {n k k0 : Nat} {ic md ic0 md0 : Nat → Int32} {td kn td0 kn0 : Int32} {fl fl0 : Nat → Int32} {E : Nat → va_E} (h8 : C8 G ad k0 ic0 md0 td0 kn0 fl0 E) (h9 : R9 G ad n k ic md td kn fl E) (x1 x2 : Int32) : CtI l G yX9_day cX9_day 3 .int 2 44 (n) ad E [.ref (ad 68), .int x1, .int x2] (fun r E' => r.toInt = DYf ic md x1.toInt x2.toInt ∧ C8 G ad k0 ic0 md0 td0 kn0 fl0 E' ∧ R9 G ad n k ic md td kn fl E') := by
  obtain ⟨im, hm, hb⟩ := h9.1.1
  exact (d_day l G n ad E h9.hn hm x1 x2).mono (fun r E' hp => by have hq := h9.mr hb hp.2; exact ⟨hp.1, h8.ref hq.rest, h9.step hq⟩)
set_option maxRecDepth 20000 in
theorem a_date (l : Launch) (G : Gl) (ad : Nat → Nat) {k : Nat} {ic md : Nat → Int32} {td kn : Int32} {fl : Nat → Int32} {E : Nat → va_E} (h8 : C8 G ad k ic md td kn fl E) (h9 : R9 G ad (98 + 9 * k) k ic md td kn fl E) (x1 x2 : Int32) : CtI l G yX8_date cX8_date 5 .int 3 64 (98 + 9 * k) ad E [.ref (ad 0), .int x1, .int x2] (fun r E' => DTp ic md x1.toInt x2.toInt r.toInt ∧ C8 G ad k ic md td kn fl E' ∧ R9 G ad (98 + 9 * k) k ic md td kn fl E') := by
  obtain ⟨ms, ld, ys, hE1, hE2, hE3, hE4, hE5, hP, hF⟩ := h8.2.1
  obtain ⟨io, hE0, h6, h7⟩ := h8.2.2.1
  obtain ⟨iz, hE6, hz⟩ := h8.z6
  exact (c_date l G _ ad E (by omega) hE1 hE2 hE3 hE4 hE5 hP hF (by omega) hE0 hE6 x1 x2).mono (fun r E' hp => by obtain ⟨hr, rfl⟩ := hp; exact ⟨hr, h8, h9⟩)
set_option maxRecDepth 20000 in
theorem b_date (l : Launch) (G : Gl) (ad : Nat → Nat) {n k k0 : Nat} {ic md ic0 md0 : Nat → Int32} {td kn td0 kn0 : Int32} {fl fl0 : Nat → Int32} {E : Nat → va_E} (h8 : C8 G ad k0 ic0 md0 td0 kn0 fl0 E) (h9 : R9 G ad n k ic md td kn fl E) (x1 x2 : Int32) : CtI l G yX9_date cX9_date 4 .int 4 85 (n) ad E [.ref (ad 68), .int x1, .int x2] (fun r E' => DTp ic md x1.toInt x2.toInt r.toInt ∧ C8 G ad k0 ic0 md0 td0 kn0 fl0 E' ∧ R9 G ad n k ic md td kn fl E') := by
  obtain ⟨im, hm, hb⟩ := h9.1.1
  exact (d_date l G n ad E h9.hn hm x1 x2).mono (fun r E' hp => by have hq := h9.mr hb hp.2; exact ⟨hp.1, h8.ref hq.rest, h9.step hq⟩)
set_option maxRecDepth 20000 in
theorem a_months (l : Launch) (G : Gl) (ad : Nat → Nat) {k : Nat} {ic md : Nat → Int32} {td kn : Int32} {fl : Nat → Int32} {E : Nat → va_E} (h8 : C8 G ad k ic md td kn fl E) (h9 : R9 G ad (98 + 9 * k) k ic md td kn fl E) (x1 x2 x3 : Int32) : CtI l G yX8_months cX8_months 5 .int 3 71 (98 + 9 * k) ad E [.ref (ad 0), .int x1, .int x2, .int x3] (fun r E' => MOp ic md x1.toInt x2.toInt x3.toInt r.toInt ∧ C8 G ad k ic md td kn fl E' ∧ R9 G ad (98 + 9 * k) k ic md td kn fl E') := by
  obtain ⟨ms, ld, ys, hE1, hE2, hE3, hE4, hE5, hP, hF⟩ := h8.2.1
  obtain ⟨io, hE0, h6, h7⟩ := h8.2.2.1
  obtain ⟨iz, hE6, hz⟩ := h8.z6
  exact (c_months l G _ ad E (by omega) hE1 hE2 hE3 hE4 hE5 hP hF (by omega) hE0 hE6 x1 x2 x3).mono (fun r E' hp => by obtain ⟨hr, rfl⟩ := hp; exact ⟨hr, h8, h9⟩)
set_option maxRecDepth 20000 in
theorem b_months (l : Launch) (G : Gl) (ad : Nat → Nat) {n k k0 : Nat} {ic md ic0 md0 : Nat → Int32} {td kn td0 kn0 : Int32} {fl fl0 : Nat → Int32} {E : Nat → va_E} (h8 : C8 G ad k0 ic0 md0 td0 kn0 fl0 E) (h9 : R9 G ad n k ic md td kn fl E) (x1 x2 x3 : Int32) : CtI l G yX9_months cX9_months 5 .int 5 113 (n) ad E [.ref (ad 68), .int x1, .int x2, .int x3] (fun r E' => MOp ic md x1.toInt x2.toInt x3.toInt r.toInt ∧ C8 G ad k0 ic0 md0 td0 kn0 fl0 E' ∧ R9 G ad n k ic md td kn fl E') := by
  obtain ⟨im, hm, hb⟩ := h9.1.1
  exact (d_months l G n ad E h9.hn hm x1 x2 x3).mono (fun r E' hp => by have hq := h9.mr hb hp.2; exact ⟨hp.1, h8.ref hq.rest, h9.step hq⟩)
set_option maxRecDepth 20000 in
theorem a_nth (l : Launch) (G : Gl) (ad : Nat → Nat) {k : Nat} {ic md : Nat → Int32} {td kn : Int32} {fl : Nat → Int32} {E : Nat → va_E} (h8 : C8 G ad k ic md td kn fl E) (h9 : R9 G ad (98 + 9 * k) k ic md td kn fl E) (x1 x2 x3 : Int32) : CtI l G yX8_nth cX8_nth 5 .int 4 92 (98 + 9 * k) ad E [.ref (ad 0), .int x1, .int x2, .int x3] (fun r E' => r.toInt = NTf ic md x1.toInt x2.toInt x3.toInt ∧ C8 G ad k ic md td kn fl E' ∧ R9 G ad (98 + 9 * k) k ic md td kn fl E') := by
  obtain ⟨ms, ld, ys, hE1, hE2, hE3, hE4, hE5, hP, hF⟩ := h8.2.1
  obtain ⟨io, hE0, h6, h7⟩ := h8.2.2.1
  obtain ⟨iz, hE6, hz⟩ := h8.z6
  exact (c_nth l G _ ad E (by omega) hE1 hE2 hE3 hE4 hE5 hP hF (by omega) hE0 hE6 x1 x2 x3).mono (fun r E' hp => by obtain ⟨hr, rfl⟩ := hp; exact ⟨hr, h8, h9⟩)
set_option maxRecDepth 20000 in
theorem b_nth (l : Launch) (G : Gl) (ad : Nat → Nat) {n k k0 : Nat} {ic md ic0 md0 : Nat → Int32} {td kn td0 kn0 : Int32} {fl fl0 : Nat → Int32} {E : Nat → va_E} (h8 : C8 G ad k0 ic0 md0 td0 kn0 fl0 E) (h9 : R9 G ad n k ic md td kn fl E) (x1 x2 x3 : Int32) : CtI l G yX9_nth cX9_nth 5 .int 3 70 (n) ad E [.ref (ad 68), .int x1, .int x2, .int x3] (fun r E' => r.toInt = NTf ic md x1.toInt x2.toInt x3.toInt ∧ C8 G ad k0 ic0 md0 td0 kn0 fl0 E' ∧ R9 G ad n k ic md td kn fl E') := by
  obtain ⟨im, hm, hb⟩ := h9.1.1
  exact (d_nth l G n ad E h9.hn hm x1 x2 x3).mono (fun r E' hp => by have hq := h9.mr hb hp.2; exact ⟨hp.1, h8.ref hq.rest, h9.step hq⟩)
set_option maxRecDepth 20000 in
theorem a_month (l : Launch) (G : Gl) (ad : Nat → Nat) {k : Nat} {ic md : Nat → Int32} {td kn : Int32} {fl : Nat → Int32} {E : Nat → va_E} (h8 : C8 G ad k ic md td kn fl E) (h9 : R9 G ad (98 + 9 * k) k ic md td kn fl E) (x1 x2 : Int32) : CtI l G yX8_month cX8_month 4 .int 4 88 (98 + 9 * k) ad E [.ref (ad 0), .int x1, .int x2] (fun r E' => r.toInt = MNr k md x1 x2 ∧ C8 G ad k ic (MNf k md x1 x2) td kn fl E' ∧ R9 G ad (98 + 9 * k) k ic md td kn fl E') := by
  obtain ⟨ms, ld, ys, hE1, hE2, hE3, hE4, hE5, hP, hF⟩ := h8.2.1
  obtain ⟨io, hE0, h6, h7⟩ := h8.2.2.1
  obtain ⟨iz, hE6, hz⟩ := h8.z6
  refine (c_month l G _ ad E (by omega) hE1 hE2 hE3 hE4 hE5 hP hF (by omega) hE0 hE6 x1 x2).mono (fun r E' hp => ?_)
  rcases hp with ⟨hn, hr, rfl⟩ | ⟨hy, hz1, hr, rfl⟩ | ⟨hy, hz1, hr, hC, hf⟩
  · unfold MNr MNf; rw [if_neg hn, if_neg (fun q => hn q.1)]; exact ⟨hr, h8, h9⟩
  · unfold MNr MNf; rw [if_pos hy, if_neg (show ¬ k = 0 by omega), if_neg (fun q => absurd q.2 (by omega))]; exact ⟨hr, h8, h9⟩
  · unfold MNr MNf; rw [if_pos hy, if_pos (show k = 0 by omega), if_pos ⟨hy, by omega⟩]
    exact ⟨by rw [hr], h8.low (fun j hj _ => hf j (by omega) (by omega) (by omega) (by omega)) (by rw [(hf 45 (by decide) (by decide) (by decide) (by decide))]; exact h8.c45) hC ⟨io, (hf 0 (by decide) (by decide) (by decide) (by decide)).trans hE0, h6, h7⟩, h9.cls (fun j hj _ => hf j (by omega) (by omega) (by omega) (by omega))⟩
set_option maxRecDepth 20000 in
theorem b_month (l : Launch) (G : Gl) (ad : Nat → Nat) {n k k0 : Nat} {ic md ic0 md0 : Nat → Int32} {td kn td0 kn0 : Int32} {fl fl0 : Nat → Int32} {E : Nat → va_E} (h8 : C8 G ad k0 ic0 md0 td0 kn0 fl0 E) (h9 : R9 G ad n k ic md td kn fl E) (x1 x2 : Int32) : CtI l G yX9_month cX9_month 4 .int 1 22 (n) ad E [.ref (ad 68), .int x1, .int x2] (fun r E' => r.toInt = MNr k md x1 x2 ∧ C8 G ad k0 ic0 md0 td0 kn0 fl0 E' ∧ R9 G ad n k ic (MNf k md x1 x2) td kn fl E') := by
  obtain ⟨im, hm, hb⟩ := h9.1.1
  have h16 := R9.f16 hb
  refine (e_month l G n ad E h9.hn hm.2.2.1 hm.2.2.2.1 x1 x2).mono (fun r E' hp => ?_)
  rcases hp with ⟨hn, hr, rfl⟩ | ⟨hy, hz1, hr, rfl⟩ | ⟨hy, hz1, hr, e68, e69, hf⟩
  · unfold MNr MNf; rw [if_neg hn, if_neg (fun q => hn q.1)]; exact ⟨hr, h8, h9⟩
  · unfold MNr MNf; rw [if_pos hy, if_neg (show ¬ k = 0 by omega), if_neg (fun q => absurd q.2 (by omega))]; exact ⟨hr, h8, h9⟩
  · unfold MNr MNf; rw [if_pos hy, if_pos (show k = 0 by omega), if_pos ⟨hy, by omega⟩]
    obtain ⟨gop, gx, gy, e1, e2, e3, e4, h5⟩ := id h9.2
    exact ⟨by rw [hr], h8.ref (fun j hj => hf j (by omega) (by omega)), h9.mk (hm.anew (by rw [icm_7]; exact hm.1) (CalP_up hm.2.1 hy.2.2.1 hy.2.2.2) e68 e69 (hf 70 (by omega) (by omega)) (by simp [va_up])) (bdM_up hb (fun _ _ => rfl) (show (0 : Int) ≤ (0 : Int32).toInt ∧ (0 : Int32).toInt ≤ 1 by decide)) h9.k5 (fun j h1 h2 => by rw [hf j (by omega) (by omega)]; exact h9.ty j h1 h2) ⟨gop, gx, gy, (hf 85 (by omega) (by omega)).trans e1, (hf 86 (by omega) (by omega)).trans e2, (hf 87 (by omega) (by omega)).trans e3, (hf 88 (by omega) (by omega)).trans e4, h5⟩⟩
set_option maxRecDepth 20000 in
theorem a_leap (l : Launch) (G : Gl) (ad : Nat → Nat) {k : Nat} {ic md : Nat → Int32} {td kn : Int32} {fl : Nat → Int32} {E : Nat → va_E} (h8 : C8 G ad k ic md td kn fl E) (h9 : R9 G ad (98 + 9 * k) k ic md td kn fl E) (x1 x2 x3 : Int32) : CtI l G yX8_leap cX8_leap 4 .int 4 88 (98 + 9 * k) ad E [.ref (ad 0), .int x1, .int x2, .int x3] (fun r E' => r.toInt = LPr k x1 x2 x3 ∧ C8 G ad k (LPg k ic x1 x2 x3) md td kn fl E' ∧ R9 G ad (98 + 9 * k) k ic md td kn fl E') := by
  obtain ⟨ms, ld, ys, hE1, hE2, hE3, hE4, hE5, hP, hF⟩ := h8.2.1
  obtain ⟨io, hE0, h6, h7⟩ := h8.2.2.1
  obtain ⟨iz, hE6, hz⟩ := h8.z6
  refine (c_leap l G _ ad E (by omega) hE1 hE2 hE3 hE4 hE5 hP hF (by omega) hE0 hE6 x1 x2 x3).mono (fun r E' hp => ?_)
  rcases hp with ⟨hn, hr, rfl⟩ | ⟨hy, hz1, hr, rfl⟩ | ⟨hy, hz1, hr, hC, hf⟩
  · unfold LPr LPg; rw [if_neg hn, if_neg (fun q => hn q.1)]; exact ⟨hr, h8, h9⟩
  · unfold LPr LPg; rw [if_pos hy, if_neg (show ¬ k = 0 by omega), if_neg (fun q => absurd q.2 (by omega))]; exact ⟨hr, h8, h9⟩
  · unfold LPr LPg; rw [if_pos hy, if_pos (show k = 0 by omega), if_pos ⟨hy, by omega⟩]
    exact ⟨hr, h8.low (fun j hj _ => hf j (by omega) (by omega) (by omega) (by omega)) (by rw [(hf 45 (by decide) (by decide) (by decide) (by decide))]; exact h8.c45) hC ⟨io, (hf 0 (by decide) (by decide) (by decide) (by decide)).trans hE0, h6, h7⟩, h9.cls (fun j hj _ => hf j (by omega) (by omega) (by omega) (by omega))⟩
set_option maxRecDepth 20000 in
theorem b_leap (l : Launch) (G : Gl) (ad : Nat → Nat) {n k k0 : Nat} {ic md ic0 md0 : Nat → Int32} {td kn td0 kn0 : Int32} {fl fl0 : Nat → Int32} {E : Nat → va_E} (h8 : C8 G ad k0 ic0 md0 td0 kn0 fl0 E) (h9 : R9 G ad n k ic md td kn fl E) (x1 x2 x3 : Int32) : CtI l G yX9_leap cX9_leap 4 .int 1 22 (n) ad E [.ref (ad 68), .int x1, .int x2, .int x3] (fun r E' => r.toInt = LPr k x1 x2 x3 ∧ C8 G ad k0 ic0 md0 td0 kn0 fl0 E' ∧ R9 G ad n k (LPg k ic x1 x2 x3) md td kn fl E') := by
  obtain ⟨im, hm, hb⟩ := h9.1.1
  have h16 := R9.f16 hb
  refine (e_leap l G n ad E h9.hn hm.2.2.1 x1 x2 x3).mono (fun r E' hp => ?_)
  rcases hp with ⟨hn, hr, rfl⟩ | ⟨hy, hz1, hr, rfl⟩ | ⟨hy, hz1, hr, e68, hf⟩
  · unfold LPr LPg; rw [if_neg hn, if_neg (fun q => hn q.1)]; exact ⟨hr, h8, h9⟩
  · unfold LPr LPg; rw [if_pos hy, if_neg (show ¬ k = 0 by omega), if_neg (fun q => absurd q.2 (by omega))]; exact ⟨hr, h8, h9⟩
  · unfold LPr LPg; rw [if_pos hy, if_pos (show k = 0 by omega), if_pos ⟨hy, by omega⟩]
    obtain ⟨gop, gx, gy, e1, e2, e3, e4, h5⟩ := id h9.2
    exact ⟨hr, h8.ref (fun j hj => hf j (by omega)), h9.mk (hm.anew (by rw [icm_lp, hm.1]) (CalP_lp hm.2.1 hy) e68 ((hf 69 (by omega)).trans hm.2.2.2.1) (hf 70 (by omega)) (by simp [va_up])) (bdM_up (bdM_up (bdM_up (bdM_up hb (fun _ _ => rfl) (ti_any _)) (fun _ _ => rfl) (ti_any _)) (fun _ _ => rfl) (ti_any _)) (fun _ _ => rfl) (show (0 : Int) ≤ (0 : Int32).toInt ∧ (0 : Int32).toInt ≤ 1 by decide)) h9.k5 (fun j h1 h2 => by rw [hf j (by omega)]; exact h9.ty j h1 h2) ⟨gop, gx, gy, (hf 85 (by omega)).trans e1, (hf 86 (by omega)).trans e2, (hf 87 (by omega)).trans e3, (hf 88 (by omega)).trans e4, h5⟩⟩
set_option maxRecDepth 20000 in
theorem a_week (l : Launch) (G : Gl) (ad : Nat → Nat) {k : Nat} {ic md : Nat → Int32} {td kn : Int32} {fl : Nat → Int32} {E : Nat → va_E} (h8 : C8 G ad k ic md td kn fl E) (h9 : R9 G ad (98 + 9 * k) k ic md td kn fl E) (x1 x2 : Int32) : CtI l G yX8_week cX8_week 3 .int 0 0 (98 + 9 * k) ad E [.ref (ad 0), .int x1, .int x2] (fun r E' => r.toInt = WKr k x1 x2 ∧ C8 G ad k (WKg k ic x1 x2) md td kn fl E' ∧ R9 G ad (98 + 9 * k) k ic md td kn fl E') := by
  obtain ⟨ms, ld, ys, hE1, hE2, hE3, hE4, hE5, hP, hF⟩ := h8.2.1
  obtain ⟨io, hE0, h6, h7⟩ := h8.2.2.1
  obtain ⟨iz, hE6, hz⟩ := h8.z6
  refine (c_week l G _ ad E (by omega) hE1 hE2 hE3 hE4 hE5 hP hF (by omega) hE0 hE6 x1 x2).mono (fun r E' hp => ?_)
  rcases hp with ⟨hn, hr, rfl⟩ | ⟨hy, hz1, hr, rfl⟩ | ⟨hy, hz1, hr, hC, hf⟩
  · unfold WKr WKg; rw [if_neg hn, if_neg (fun q => hn q.1)]; exact ⟨hr, h8, h9⟩
  · unfold WKr WKg; rw [if_pos hy, if_neg (show ¬ k = 0 by omega), if_neg (fun q => absurd q.2 (by omega))]; exact ⟨hr, h8, h9⟩
  · unfold WKr WKg; rw [if_pos hy, if_pos (show k = 0 by omega), if_pos ⟨hy, by omega⟩]
    exact ⟨hr, h8.low (fun j hj _ => hf j (by omega)) (by rw [(hf 45 (by decide))]; exact h8.c45) hC ⟨io, (hf 0 (by decide)).trans hE0, h6, h7⟩, h9.cls (fun j hj _ => hf j (by omega))⟩
set_option maxRecDepth 20000 in
theorem b_week (l : Launch) (G : Gl) (ad : Nat → Nat) {n k k0 : Nat} {ic md ic0 md0 : Nat → Int32} {td kn td0 kn0 : Int32} {fl fl0 : Nat → Int32} {E : Nat → va_E} (h8 : C8 G ad k0 ic0 md0 td0 kn0 fl0 E) (h9 : R9 G ad n k ic md td kn fl E) (x1 x2 : Int32) : CtI l G yX9_week cX9_week 3 .int 1 22 (n) ad E [.ref (ad 68), .int x1, .int x2] (fun r E' => r.toInt = WKr k x1 x2 ∧ C8 G ad k0 ic0 md0 td0 kn0 fl0 E' ∧ R9 G ad n k (WKg k ic x1 x2) md td kn fl E') := by
  obtain ⟨im, hm, hb⟩ := h9.1.1
  have h16 := R9.f16 hb
  refine (e_week l G n ad E h9.hn hm.2.2.1 x1 x2).mono (fun r E' hp => ?_)
  rcases hp with ⟨hn, hr, rfl⟩ | ⟨hy, hz1, hr, rfl⟩ | ⟨hy, hz1, hr, e68, hf⟩
  · unfold WKr WKg; rw [if_neg hn, if_neg (fun q => hn q.1)]; exact ⟨hr, h8, h9⟩
  · unfold WKr WKg; rw [if_pos hy, if_neg (show ¬ k = 0 by omega), if_neg (fun q => absurd q.2 (by omega))]; exact ⟨hr, h8, h9⟩
  · unfold WKr WKg; rw [if_pos hy, if_pos (show k = 0 by omega), if_pos ⟨hy, by omega⟩]
    obtain ⟨gop, gx, gy, e1, e2, e3, e4, h5⟩ := id h9.2
    exact ⟨hr, h8.ref (fun j hj => hf j (by omega)), h9.mk (show MCal G ad E' _ _ _ from ⟨by rw [icm_wk, hm.1], CalP_wk hm.2.1 hy, e68, (hf 69 (by omega)).trans hm.2.2.2.1, hm.2.2.2.2.1, wk_fk hm (hf 70 (by omega))⟩) (bdM_up (bdM_up hb (fun _ _ => rfl) (ti_any _)) (fun _ _ => rfl) (ti_any _)) h9.k5 (fun j h1 h2 => by rw [hf j (by omega)]; exact h9.ty j h1 h2) ⟨gop, gx, gy, (hf 85 (by omega)).trans e1, (hf 86 (by omega)).trans e2, (hf 87 (by omega)).trans e3, (hf 88 (by omega)).trans e4, h5⟩⟩
set_option maxRecDepth 20000 in
theorem a_today (l : Launch) (G : Gl) (ad : Nat → Nat) {k : Nat} {ic md : Nat → Int32} {td kn : Int32} {fl : Nat → Int32} {E : Nat → va_E} (h8 : C8 G ad k ic md td kn fl E) (h9 : R9 G ad (98 + 9 * k) k ic md td kn fl E) (x1 : Int32) : CtI l G yX8_today cX8_today 3 .int 0 0 (98 + 9 * k) ad E [.ref (ad 0), .int x1] (fun r E' => r.toInt = TDr td x1 ∧ C8 G ad k ic md (TDf td x1) kn fl E' ∧ R9 G ad (98 + 9 * k) k ic md td kn fl E') := by
  obtain ⟨io, hE0, h6, h7⟩ := h8.2.2.1
  refine (c_today l G _ ad E (by omega) hE0 x1).mono (fun r E' hp => ?_)
  rw [h6] at hp
  rcases hp with ⟨hn, hr, rfl⟩ | ⟨hy, hr, e0, hf⟩
  · unfold TDr TDf; rw [if_neg hn, if_neg hn]; exact ⟨hr, h8, h9⟩
  · unfold TDr TDf; rw [if_pos hy, if_pos hy]
    exact ⟨by rw [hr], h8.low (fun j hj _ => hf j (by omega)) (by rw [hf 45 (by decide)]; exact h8.c45) (h8.2.1.of' (fun j hj h0 => hf j h0)) ⟨_, e0, by simp [va_up], by simp [va_up, h7]⟩, h9.cls (fun j hj _ => hf j (by omega))⟩
set_option maxRecDepth 20000 in
theorem b_today (l : Launch) (G : Gl) (ad : Nat → Nat) {n k k0 : Nat} {ic md ic0 md0 : Nat → Int32} {td kn td0 kn0 : Int32} {fl fl0 : Nat → Int32} {E : Nat → va_E} (h8 : C8 G ad k0 ic0 md0 td0 kn0 fl0 E) (h9 : R9 G ad n k ic md td kn fl E) (x1 : Int32) : CtI l G yX9_today cX9_today 3 .int 1 22 (n) ad E [.ref (ad 68), .int x1] (fun r E' => r.toInt = TDr td x1 ∧ C8 G ad k0 ic0 md0 td0 kn0 fl0 E' ∧ R9 G ad n k ic md (TDf td x1) kn fl E') := by
  obtain ⟨im, hm, hb⟩ := h9.1.1
  refine (e_today l G n ad E h9.hn hm.2.2.1 x1).mono (fun r E' hp => ?_)
  rw [R9.f17 hb] at hp
  rcases hp with ⟨hn, hr, rfl⟩ | ⟨hy, hr, e68, hf⟩
  · unfold TDr TDf; rw [if_neg hn, if_neg hn]; exact ⟨hr, h8, h9⟩
  · unfold TDr TDf; rw [if_pos hy, if_pos hy]
    obtain ⟨gop, gx, gy, e1, e2, e3, e4, h5⟩ := id h9.2
    exact ⟨by rw [hr], h8.ref (fun j hj => hf j (by omega)), h9.mk (hm.up (by decide) e68 hf) (bdM_up hb (bdM_17 k td kn x1) (show x1.toInt ≤ x1.toInt ∧ x1.toInt ≤ x1.toInt by omega)) h9.k5 (fun j h1 h2 => by rw [hf j (by omega)]; exact h9.ty j h1 h2) ⟨gop, gx, gy, (hf _ (by decide)).trans e1, (hf _ (by decide)).trans e2, (hf _ (by decide)).trans e3, (hf _ (by decide)).trans e4, h5⟩⟩
set_option maxRecDepth 20000 in
theorem a_known (l : Launch) (G : Gl) (ad : Nat → Nat) {k : Nat} {ic md : Nat → Int32} {td kn : Int32} {fl : Nat → Int32} {E : Nat → va_E} (h8 : C8 G ad k ic md td kn fl E) (h9 : R9 G ad (98 + 9 * k) k ic md td kn fl E) (x1 : Int32) : CtI l G yX8_known cX8_known 3 .int 1 20 (98 + 9 * k) ad E [.ref (ad 0), .int x1] (fun r E' => r.toInt = KNr kn x1 ∧ C8 G ad k ic md td (KNf kn x1) fl E' ∧ R9 G ad (98 + 9 * k) k ic md td kn fl E') := by
  obtain ⟨io, hE0, h6, h7⟩ := h8.2.2.1
  obtain ⟨iq, e45, b45⟩ := h8.1.2.2.getO (b := 45) (by omega) rfl
  refine (c_known l G _ ad E (by omega) hE0 e45 x1).mono (fun r E' hp => ?_)
  rw [h7] at hp
  rcases hp with ⟨hn, hr, rfl⟩ | ⟨hy, hr, e0, e5, hf⟩
  · unfold KNr KNf; rw [if_neg hn, if_neg hn]; exact ⟨hr, h8, h9⟩
  · unfold KNr KNf; rw [if_pos hy, if_pos hy]
    exact ⟨by rw [hr], h8.low (fun j hj h45 => hf j (by omega) h45) (ty45 b45 e5) (h8.2.1.of' (fun j hj h0 => hf j h0 (by omega))) ⟨_, e0, by simp [va_up, h6], by simp [va_up]⟩, h9.cls (fun j hj _ => hf j (by omega) (by omega))⟩
set_option maxRecDepth 20000 in
theorem b_known (l : Launch) (G : Gl) (ad : Nat → Nat) {n k k0 : Nat} {ic md ic0 md0 : Nat → Int32} {td kn td0 kn0 : Int32} {fl fl0 : Nat → Int32} {E : Nat → va_E} (h8 : C8 G ad k0 ic0 md0 td0 kn0 fl0 E) (h9 : R9 G ad n k ic md td kn fl E) (x1 : Int32) : CtI l G yX9_known cX9_known 3 .int 1 22 (n) ad E [.ref (ad 68), .int x1] (fun r E' => r.toInt = KNr kn x1 ∧ C8 G ad k0 ic0 md0 td0 kn0 fl0 E' ∧ R9 G ad n k ic md td (KNf kn x1) fl E') := by
  obtain ⟨im, hm, hb⟩ := h9.1.1
  have hn98 := h9.hn
  obtain ⟨fz, e79, b79⟩ := h9.1.2.1.getB (b := 79) (by omega) rfl
  refine (e_known l G n ad E h9.hn hm.2.2.1 e79 x1).mono (fun r E' hp => ?_)
  rw [R9.f18 hb] at hp
  rcases hp with ⟨hn, hr, rfl⟩ | ⟨hy, hr, e68, ⟨f2, g79, z79, y79⟩, hf⟩
  · unfold KNr KNf; rw [if_neg hn, if_neg hn]; exact ⟨hr, h8, h9⟩
  · unfold KNr KNf; rw [if_pos hy, if_pos hy]
    obtain ⟨gop, gx, gy, e1, e2, e3, e4, h5⟩ := id h9.2
    exact ⟨by rw [hr], h8.ref (fun j hj => hf j (by omega) (by omega)), h9.mk (hm.up79 (by decide) e68 (fun j h1 h2 => hf j h1 (by omega))) (bdM_up hb (bdM_18 k td kn x1) (show x1.toInt ≤ x1.toInt ∧ x1.toInt ≤ x1.toInt by omega)) h9.k5 (fun j h1 h2 => by by_cases q : j = 79; (rw [q]; exact ty79 g79 z79 y79 b79); (rw [hf j (by omega) q]; exact h9.ty j h1 h2)) ⟨gop, gx, gy, (hf _ (by decide) (by decide)).trans e1, (hf _ (by decide) (by decide)).trans e2, (hf _ (by decide) (by decide)).trans e3, (hf _ (by decide) (by decide)).trans e4, h5⟩⟩
set_option maxRecDepth 20000 in
theorem a_clear (l : Launch) (G : Gl) (ad : Nat → Nat) {k : Nat} {ic md : Nat → Int32} {td kn : Int32} {fl : Nat → Int32} {E : Nat → va_E} (h8 : C8 G ad k ic md td kn fl E) (h9 : R9 G ad (98 + 9 * k) k ic md td kn fl E) (x1 : Int32) : CtI l G yX8_clear cX8_clear 4 .int 4 88 (98 + 9 * k) ad E [.ref (ad 0), .int x1] (fun r E' => r.toInt = CLr fl x1 ∧ C8 G ad k ic md td kn (CLf fl x1) E' ∧ R9 G ad (98 + 9 * k) k ic md td kn fl E') := by
  obtain ⟨io, hE0, h6, h7⟩ := h8.2.2.1
  obtain ⟨iz, hE6, hz⟩ := h8.z6
  obtain ⟨fp, hE8, hfp⟩ := h8.1.c8
  refine (g_clear l G _ ad E (by omega) hE0 hE6 hE8 hfp (fun i hi => h8.pgw hi) h9.bl x1).mono (fun r E' hp => ?_)
  rcases hp with ⟨hn, hr, rfl⟩ | ⟨i, hi, hpi, hr, hW, hF⟩
  · unfold CLr CLf; rw [if_neg hn, if_neg hn]; exact ⟨hr, h8, h9⟩
  · have hok : okPg x1 := by unfold okPg; omega
    have hin : x1.toInt.toNat = i := by omega
    unfold CLr CLf; rw [if_pos hok, if_pos hok, hin]
    exact ⟨by rw [hr], h8.prog hi hW (by decide) (by decide) hF, h9.cls (fun j h1 h2 => hF j (by omega))⟩
set_option maxRecDepth 20000 in
theorem b_clear (l : Launch) (G : Gl) (ad : Nat → Nat) {n k k0 : Nat} {ic md ic0 md0 : Nat → Int32} {td kn td0 kn0 : Int32} {fl fl0 : Nat → Int32} {E : Nat → va_E} (h8 : C8 G ad k0 ic0 md0 td0 kn0 fl0 E) (h9 : R9 G ad n k ic md td kn fl E) (x1 : Int32) : CtI l G yX9_clear cX9_clear 3 .int 2 42 (n) ad E [.ref (ad 68), .int x1] (fun r E' => r.toInt = CLr fl x1 ∧ C8 G ad k0 ic0 md0 td0 kn0 fl0 E' ∧ R9 G ad n k ic md td kn (CLf fl x1) E') := by
  obtain ⟨im, hm, hb⟩ := h9.1.1
  have hbl := h9.bl
  obtain ⟨gop, gx, gy, e1, e2, e3, e4, h5⟩ := id h9.2
  refine (e_clear l G n ad E h9.hn hm.2.2.1 e4 x1).mono (fun r E' hp => ?_)
  rcases hp with ⟨hn, hr, rfl⟩ | ⟨hy, hr, g4, hf⟩
  · unfold CLr CLf; rw [if_neg hn, if_neg hn]; exact ⟨hr, h8, h9⟩
  · unfold CLr CLf; rw [if_pos hy, if_pos hy]
    exact ⟨by rw [hr], h8.ref (fun j hj => hf j (by omega)), h9.mk (hm.of (hf _ (by decide)) (hf _ (by decide)) (hf _ (by decide))) hb h9.k5 (fun j h1 h2 => by by_cases q : j = 88; (rw [q]; exact ty88 g4 (upd_b hbl (by decide))); (rw [hf j q]; exact h9.ty j h1 h2)) ⟨gop, gx, gy, (hf _ (by decide)).trans e1, (hf _ (by decide)).trans e2, (hf _ (by decide)).trans e3, g4, h5⟩⟩
set_option maxRecDepth 20000 in
theorem a_line (l : Launch) (G : Gl) (ad : Nat → Nat) {k : Nat} {ic md : Nat → Int32} {td kn : Int32} {fl : Nat → Int32} {E : Nat → va_E} (h8 : C8 G ad k ic md td kn fl E) (h9 : R9 G ad (98 + 9 * k) k ic md td kn fl E) (x1 x2 x3 x4 : Int32) : CtI l G yX8_line cX8_line 7 .int 5 115 (98 + 9 * k) ad E [.ref (ad 0), .int x1, .int x2, .int x3, .int x4] (fun r E' => r.toInt = LNr k fl x1 x2 x3 x4 ∧ C8 G ad k ic md td kn (LNf k fl x1 x2 x3 x4) E' ∧ R9 G ad (98 + 9 * k) k ic md td kn fl E') := by
  obtain ⟨io, hE0, h6, h7⟩ := h8.2.2.1
  obtain ⟨iz, hE6, hz⟩ := h8.z6
  obtain ⟨fp, hE8, hfp⟩ := h8.1.c8
  refine (g_line l G _ ad E (by omega) hE0 hE6 hE8 hfp (fun i hi => h8.pgw hi) h9.bl x1 x2 x3 x4).mono (fun r E' hp => ?_)
  rw [hz] at hp
  rcases hp with ⟨hn, hr, rfl⟩ | ⟨i, hi, hpi, ho, h10, hr, rfl⟩ | ⟨i, hi, hpi, ho, h10, hr, z, hz1, hW, hF⟩
  · unfold LNr LNf; rw [if_neg hn, if_neg (fun q => hn q.1)]; exact ⟨hr, h8, h9⟩
  · have hok : okLI k x1 x2 x3 x4 := ⟨by omega, by omega, ho⟩
    have hin : x1.toInt.toNat = i := by omega
    unfold LNr LNf; rw [if_pos hok, hin, if_neg (by omega), if_neg (fun q => absurd q.2 (by omega))]; exact ⟨hr, h8, h9⟩
  · have hok : okLI k x1 x2 x3 x4 := ⟨by omega, by omega, ho⟩
    have hin : x1.toInt.toNat = i := by omega
    have hb := h9.bl i
    have ez : z = fl i + 1 := ti_ext (by rw [hz1, ti_add (rfl : (fl i).toInt = _) (show (1 : Int32).toInt = 1 by decide) (by omega) (by omega)])
    unfold LNr LNf; rw [if_pos hok, hin, if_pos h10, if_pos ⟨hok, h10⟩, ← ez]
    exact ⟨hr, h8.prog hi hW (by omega) (by omega) hF, h9.cls (fun j h1 h2 => hF j (by omega))⟩
set_option maxRecDepth 20000 in
theorem b_line (l : Launch) (G : Gl) (ad : Nat → Nat) {n k k0 : Nat} {ic md ic0 md0 : Nat → Int32} {td kn td0 kn0 : Int32} {fl fl0 : Nat → Int32} {E : Nat → va_E} (h8 : C8 G ad k0 ic0 md0 td0 kn0 fl0 E) (h9 : R9 G ad n k ic md td kn fl E) (x1 x2 x3 x4 : Int32) : CtI l G yX9_line cX9_line 6 .int 2 45 (n) ad E [.ref (ad 68), .int x1, .int x2, .int x3, .int x4] (fun r E' => r.toInt = LNr k fl x1 x2 x3 x4 ∧ C8 G ad k0 ic0 md0 td0 kn0 fl0 E' ∧ R9 G ad n k ic md td kn (LNf k fl x1 x2 x3 x4) E') := by
  obtain ⟨im, hm, hb⟩ := h9.1.1
  have hbl := h9.bl
  have hk5 := h9.k5
  obtain ⟨gop, gx, gy, e1, e2, e3, e4, h5⟩ := id h9.2
  refine (e_line l G n ad E h9.hn hm.2.2.1 e1 e2 e3 e4 x1 x2 x3 x4 (hbl _)).mono (fun r E' hp => ?_)
  rw [R9.f16 hb] at hp
  have hbi := hbl x1.toInt.toNat
  rcases hp with ⟨hn, hr, rfl⟩ | ⟨ho, h10, hr, rfl⟩ | ⟨ho, h10, hr, z, hz1, g1, g2, g3, g4, hf⟩
  · unfold LNr LNf; rw [if_neg hn, if_neg (fun q => hn q.1)]; exact ⟨hr, h8, h9⟩
  · unfold LNr LNf; rw [if_pos ho, if_neg (by omega), if_neg (fun q => absurd q.2 (by omega))]; exact ⟨hr, h8, h9⟩
  · have ez : z = fl x1.toInt.toNat + 1 := ti_ext (by rw [hz1, ti_add (rfl : (fl x1.toInt.toNat).toInt = _) (show (1 : Int32).toInt = 1 by decide) (by omega) (by omega)])
    have h10' : (fl x1.toInt.toNat).toInt < 10 := by omega
    unfold LNr LNf; rw [if_pos ho, if_pos h10', if_pos ⟨ho, h10'⟩, ← ez]
    refine ⟨hr, h8.ref (fun j hj => hf j (by omega) (by omega) (by omega) (by omega)), h9.mk (hm.of (hf _ (by decide) (by decide) (by decide) (by decide)) (hf _ (by decide) (by decide) (by decide) (by decide)) (hf _ (by decide) (by decide) (by decide) (by decide))) hb h9.k5 (fun j h1 h2 => ?_) ⟨_, _, _, g1, g2, g3, g4, LXg_up h5 (fun hq => ?_)⟩⟩
    · by_cases q5 : j = 85
      · rw [q5]; exact HasTy.any g1
      · by_cases q6 : j = 86
        · rw [q6]; exact HasTy.any g2
        · by_cases q7 : j = 87
          · rw [q7]; exact HasTy.any g3
          · by_cases q8 : j = 88
            · rw [q8]; exact ty88 g4 (upd_b hbl (by omega))
            · rw [hf j q5 q6 q7 q8]; exact h9.ty j h1 h2
    · have ho3 := ho.2.2
      unfold okLn at ho3
      omega
set_option maxRecDepth 20000 in
theorem a_count (l : Launch) (G : Gl) (ad : Nat → Nat) {k : Nat} {ic md : Nat → Int32} {td kn : Int32} {fl : Nat → Int32} {E : Nat → va_E} (h8 : C8 G ad k ic md td kn fl E) (h9 : R9 G ad (98 + 9 * k) k ic md td kn fl E) (x1 : Int32) : CtI l G yX8_count cX8_count 2 .int 1 24 (98 + 9 * k) ad E [.ref (ad 0), .int x1] (fun r E' => r.toInt = CNf (k : Int) fl td.toInt (YSf md (ic 4).toInt (ic 5).toInt 100) x1.toInt ∧ C8 G ad k ic md td kn fl E' ∧ R9 G ad (98 + 9 * k) k ic md td kn fl E') := by
  obtain ⟨ms, ld, ys, hE1, hE2, hE3, hE4, hE5, hP, hF⟩ := h8.2.1
  obtain ⟨io, hE0, h6, h7⟩ := h8.2.2.1
  obtain ⟨iz, hE6, hz⟩ := h8.z6
  obtain ⟨fp, hE8, hfp⟩ := h8.1.c8
  refine (g_count l G _ ad E (by omega) hE0 hE6 hE8 hfp (fun i hi => h8.pgw hi) h9.bl hE1 hE2 hE3 hE4 hE5 hP hF x1).mono (fun r E' hp => ?_)
  rw [hz, h6] at hp
  obtain ⟨hr, rfl⟩ := hp
  exact ⟨hr, h8, h9⟩
set_option maxRecDepth 20000 in
theorem b_count (l : Launch) (G : Gl) (ad : Nat → Nat) {n k k0 : Nat} {ic md ic0 md0 : Nat → Int32} {td kn td0 kn0 : Int32} {fl fl0 : Nat → Int32} {E : Nat → va_E} (h8 : C8 G ad k0 ic0 md0 td0 kn0 fl0 E) (h9 : R9 G ad n k ic md td kn fl E) (x1 : Int32) : CtI l G yX9_count cX9_count 4 .int 3 64 (n) ad E [.ref (ad 68), .int x1] (fun r E' => r.toInt = CNf (k : Int) fl td.toInt (YSf md (ic 4).toInt (ic 5).toInt 100) x1.toInt ∧ C8 G ad k0 ic0 md0 td0 kn0 fl0 E' ∧ R9 G ad n k ic md td kn fl E') := by
  obtain ⟨im, hm, hb⟩ := h9.1.1
  obtain ⟨gop, gx, gy, e1, e2, e3, e4, h5⟩ := id h9.2
  refine (e_count l G n ad E h9.hn hm.2.2.1 hm e4 h9.bl x1).mono (fun r E' hp => ?_)
  rw [R9.f16 hb, R9.f17 hb] at hp
  have hq := h9.mr hb hp.2
  exact ⟨hp.1, h8.ref hq.rest, h9.step hq⟩
set_option maxRecDepth 20000 in
theorem a_zone (l : Launch) (G : Gl) (ad : Nat → Nat) {k : Nat} {ic md : Nat → Int32} {td kn : Int32} {fl : Nat → Int32} {E : Nat → va_E} (h8 : C8 G ad k ic md td kn fl E) (h9 : R9 G ad (98 + 9 * k) k ic md td kn fl E) (x1 : Int32) : CtZ l G yX8_zone cX8_zone 2 .int 3 59 9 3246 (98 + 9 * k) ad E [.ref (ad 0), .int x1] (fun r u => r.toInt = ZNr k x1 ∧ u.1 = 98 + 9 * ZNk k x1 ∧ (∀ j, j < 98 → u.2.1 j = ad j) ∧ C8 G u.2.1 (ZNk k x1) ic md td kn fl u.2.2 ∧ R9 G u.2.1 u.1 k ic md td kn fl u.2.2) := by
  obtain ⟨io, hE0, h6, h7⟩ := id h8.2.2.1
  obtain ⟨iz, hE6, hz⟩ := h8.z6
  obtain ⟨fz, hE7, hfz⟩ := h8.1.c7
  obtain ⟨iq, e45, b45⟩ := h8.1.2.2.getO (b := 45) (by omega) rfl
  refine (g_zone l G (98 + 9 * k) k rfl h8.1.1 ad E x1 hz hE0 hE6 hE7 e45).mono (fun r u hp => ?_)
  obtain ⟨n1, ad1, E1⟩ := u
  rcases hp with ⟨hn, hr, rfl, rfl, rfl⟩ | ⟨hy, hk, hr, rfl, rfl, rfl⟩ | ⟨hy, hk, hr, rfl, hA, hO, g45, ⟨iz2, g6, hz2⟩, g7, hzn⟩
  · unfold ZNr ZNk; rw [if_neg hn, if_neg (fun q => hn q.1)]; exact ⟨hr, rfl, fun _ _ => rfl, h8, h9⟩
  · unfold ZNr ZNk; rw [if_pos hy, if_neg (by omega), if_neg (fun q => absurd q.2 (by omega))]; exact ⟨hr, rfl, fun _ _ => rfl, h8, h9⟩
  · unfold ZNr ZNk; rw [if_pos hy, if_pos hk, if_pos ⟨hy, hk⟩]
    exact ⟨hr, (by show 98 + 9 * k + 9 = _; omega), fun j hj => hA j (by omega), h8.zone hk hA hO b45 g45 g6 hz2 hfz g7 hzn, h9.zone (by omega) (fun j hj => hA j hj) (fun j h1 h2 => hO j (by omega) (by omega) (by omega) (by omega))⟩
set_option maxRecDepth 20000 in
theorem b_zone (l : Launch) (G : Gl) (ad : Nat → Nat) {n k k0 : Nat} {ic md ic0 md0 : Nat → Int32} {td kn td0 kn0 : Int32} {fl fl0 : Nat → Int32} {E : Nat → va_E} (h8 : C8 G ad k0 ic0 md0 td0 kn0 fl0 E) (h9 : R9 G ad n k ic md td kn fl E) (x1 : Int32) : CtI l G yX9_zone cX9_zone 2 .int 1 22 (n) ad E [.ref (ad 68), .int x1] (fun r E' => r.toInt = ZNr k x1 ∧ C8 G ad k0 ic0 md0 td0 kn0 fl0 E' ∧ R9 G ad n (ZNk k x1) ic md td kn fl E') := by
  obtain ⟨im, hm, hb⟩ := h9.1.1
  have hn98 := h9.hn
  have hk5 := h9.k5
  have h16 := R9.f16 hb
  obtain ⟨fz, e79, b79⟩ := h9.1.2.1.getB (b := 79) (by omega) rfl
  obtain ⟨fv, e71, -⟩ := h9.1.2.1.getA (b := 71) (by omega) rfl
  refine (e_zone l G n ad E h9.hn hm.2.2.1 e79 e71 (by omega) x1).mono (fun r E' hp => ?_)
  rw [h16] at hp
  rcases hp with ⟨hn, hr, rfl⟩ | ⟨hy, hk, hr, rfl⟩ | ⟨hy, hk, hr, z, hz, e68, g71, ⟨f2, g79, z79, y79⟩, hf⟩
  · unfold ZNr ZNk; rw [if_neg hn, if_neg (fun q => hn q.1)]; exact ⟨hr, h8, h9⟩
  · unfold ZNr ZNk; rw [if_pos hy, if_neg (by omega), if_neg (fun q => absurd q.2 (by omega))]; exact ⟨hr, h8, h9⟩
  · unfold ZNr ZNk; rw [if_pos hy, if_pos (show k < 5 by omega), if_pos ⟨hy, by omega⟩]
    obtain ⟨gop, gx, gy, e1, e2, e3, e4, h5⟩ := id h9.2
    exact ⟨hr, h8.ref (fun j hj => hf j (by omega) (by omega) (by omega)), h9.mk (hm.up79 (by decide) e68 (fun j h1 h2 => hf j h1 (by omega) (by omega))) (bdM_up hb (bdM_16 k td kn) (show ((k + 1 : Nat) : Int) ≤ z.toInt ∧ z.toInt ≤ ((k + 1 : Nat) : Int) by omega)) (by omega) (fun j h1 h2 => by by_cases q : j = 79; (rw [q]; exact ty79 g79 z79 y79 b79); (by_cases q2 : j = 71; (rw [q2]; exact HasTy.any g71); (rw [hf j (by omega) q2 q]; exact h9.ty j h1 h2))) ⟨gop, gx, gy, (hf _ (by decide) (by decide) (by decide)).trans e1, (hf _ (by decide) (by decide) (by decide)).trans e2, (hf _ (by decide) (by decide) (by decide)).trans e3, (hf _ (by decide) (by decide) (by decide)).trans e4, h5⟩⟩
