/-! ===== the class's cells: shapes and intervals ===== -/
def bd3 : Nat → Int × Int := fun q => if q = 8 then (0, 50) else (-2147483648, 2147483647)
def bd4 : Nat → Int × Int := fun q => if q = 2 then (0, 26002) else if q = 5 then (0, 1) else (-2147483648, 2147483647)
def bd5 : Nat → Int × Int := fun q => if q = 5 then (0, 8) else if q = 6 then (0, 10) else (-2147483648, 2147483647)
def bd6 : Nat → Int × Int := fun q => if q = 8 then (0, 8) else if q = 9 then (0, 8) else if q = 10 then (0, 800) else (-2147483648, 2147483647)
def bd7 (k : Nat) : Nat → Int × Int := fun q => if q = 1 then ((k : Int), (k : Int)) else (-2147483648, 2147483647)
def bd09 : Nat → Int × Int := fun _ => (0, 9)
def pgT (c r : Nat) : CT := if r = 0 then (0, 5, [c + 1, c + 2, c + 3, c + 4, c + 5], bd5) else if r = 5 then (1, 8, [], anyB) else (1, 10, [], anyB)
def znT (b r : Nat) : CT := if r = 0 then (0, 6, [b + 1, b + 2, b + 3, b + 4, b + 5, b + 6, b + 7, b + 8], bd6) else if r = 3 then (1, 800, [], anyB) else if r < 6 then (1, 8, [], anyB) else (1, 801, [], anyB)
def Ty8 (k : Nat) : Nat → CT := fun j =>
  if 98 ≤ j then znT (98 + 9 * ((j - 98) / 9)) ((j - 98) % 9)
  else if 9 ≤ j ∧ j < 45 then pgT (9 + 6 * ((j - 9) / 6)) ((j - 9) % 6)
  else if 52 ≤ j ∧ j < 64 then pgT (52 + 6 * ((j - 52) / 6)) ((j - 52) % 6)
  else if j = 6 then (0, 7, [7], bd7 k)
  else if j = 45 then (0, 4, [46, 47], bd4) else if j = 46 then (2, 31251, [], anyB) else if j = 47 then (1, 26002, [], anyB)
  else if j = 48 then (0, 1, [1, 6, 49, 45], anyB) else if j = 49 then (0, 2, [1, 6, 50], anyB) else if j = 50 then (1, 8, [], anyB)
  else if j = 51 then (0, 3, [6, 48, 52, 58, 64, 65, 66, 67], bd3) else if j = 64 then (1, 50, [], bd09)
  else if j = 65 ∨ j = 66 ∨ j = 67 then (1, 50, [], anyB) else (9, 0, [], anyB)
def ZC (k b : Nat) : Prop := ∃ i, i < k ∧ b = 98 + 9 * i
def PC (c : Nat) : Prop := (∃ i, i < 6 ∧ c = 9 + 6 * i) ∨ c = 52 ∨ c = 58
theorem ZC.n {k b : Nat} (h : ZC k b) : b + 9 ≤ 98 + 9 * k ∧ 98 ≤ b := by
  obtain ⟨i, h1, h2⟩ := h
  omega
theorem ZC.t {k b : Nat} (h : ZC k b) {r : Nat} (hr : r < 9) : Ty8 k (b + r) = znT b r := by
  obtain ⟨i, h1, h2⟩ := h
  unfold Ty8
  rw [if_pos (by omega), show 98 + 9 * ((b + r - 98) / 9) = b by omega, show (b + r - 98) % 9 = r by omega]
theorem ZC.t0 {k b : Nat} (h : ZC k b) : Ty8 k b = (0, 6, [b + 1, b + 2, b + 3, b + 4, b + 5, b + 6, b + 7, b + 8], bd6) := h.t (r := 0) (by decide)
theorem ZC.t1 {k b : Nat} (h : ZC k b) : Ty8 k (b + 1) = (1, 8, [], anyB) := h.t (r := 1) (by decide)
theorem ZC.t2 {k b : Nat} (h : ZC k b) : Ty8 k (b + 2) = (1, 8, [], anyB) := h.t (r := 2) (by decide)
theorem ZC.t3 {k b : Nat} (h : ZC k b) : Ty8 k (b + 3) = (1, 800, [], anyB) := h.t (r := 3) (by decide)
theorem ZC.t4 {k b : Nat} (h : ZC k b) : Ty8 k (b + 4) = (1, 8, [], anyB) := h.t (r := 4) (by decide)
theorem ZC.t5 {k b : Nat} (h : ZC k b) : Ty8 k (b + 5) = (1, 8, [], anyB) := h.t (r := 5) (by decide)
theorem ZC.t6 {k b : Nat} (h : ZC k b) : Ty8 k (b + 6) = (1, 801, [], anyB) := h.t (r := 6) (by decide)
theorem ZC.t7 {k b : Nat} (h : ZC k b) : Ty8 k (b + 7) = (1, 801, [], anyB) := h.t (r := 7) (by decide)
theorem ZC.t8 {k b : Nat} (h : ZC k b) : Ty8 k (b + 8) = (1, 801, [], anyB) := h.t (r := 8) (by decide)
theorem PC.n {c : Nat} (h : PC c) : 9 ≤ c ∧ c + 6 ≤ 68 ∧ (c + 6 ≤ 45 ∨ c = 52 ∨ c = 58) := by
  rcases h with ⟨i, h1, h2⟩ | h | h <;> omega
theorem PC.t {c : Nat} (h : PC c) (k : Nat) {r : Nat} (hr : r < 6) : Ty8 k (c + r) = pgT c r := by
  unfold Ty8
  rcases h with ⟨i, h1, h2⟩ | h | h
  · rw [if_neg (by omega), if_pos (by omega), show 9 + 6 * ((c + r - 9) / 6) = c by omega, show (c + r - 9) % 6 = r by omega]
  · rw [if_neg (by omega), if_neg (by omega), if_pos (by omega), show 52 + 6 * ((c + r - 52) / 6) = c by omega, show (c + r - 52) % 6 = r by omega]
  · rw [if_neg (by omega), if_neg (by omega), if_pos (by omega), show 52 + 6 * ((c + r - 52) / 6) = c by omega, show (c + r - 52) % 6 = r by omega]
theorem PC.t0 {c : Nat} (h : PC c) (k : Nat) : Ty8 k c = (0, 5, [c + 1, c + 2, c + 3, c + 4, c + 5], bd5) := h.t k (r := 0) (by decide)
theorem PC.t1 {c : Nat} (h : PC c) (k : Nat) : Ty8 k (c + 1) = (1, 10, [], anyB) := h.t k (r := 1) (by decide)
theorem PC.t2 {c : Nat} (h : PC c) (k : Nat) : Ty8 k (c + 2) = (1, 10, [], anyB) := h.t k (r := 2) (by decide)
theorem PC.t3 {c : Nat} (h : PC c) (k : Nat) : Ty8 k (c + 3) = (1, 10, [], anyB) := h.t k (r := 3) (by decide)
theorem PC.t4 {c : Nat} (h : PC c) (k : Nat) : Ty8 k (c + 4) = (1, 10, [], anyB) := h.t k (r := 4) (by decide)
theorem PC.t5 {c : Nat} (h : PC c) (k : Nat) : Ty8 k (c + 5) = (1, 8, [], anyB) := h.t k (r := 5) (by decide)
theorem PC.p {i : Nat} (h : i < 6) : PC (9 + 6 * i) := Or.inl ⟨i, h, rfl⟩
theorem pc52 : PC 52 := Or.inr (Or.inl rfl)
theorem pc58 : PC 58 := Or.inr (Or.inr rfl)
def P8 (j : Nat) : Prop := j < 45 ∨ (68 ≤ j ∧ j < 98)
def B8 (G : Gl) (ad : Nat → Nat) (k : Nat) (E : Nat → va_E) : Prop := (∃ io : Nat → Int32, E 0 = ob 8 (rfs ad [1, 6, 8, 48, 45, 51]) io) ∧ (∃ ic md : Nat → Int32, CalW G ad E ic md) ∧ (∃ fz : Nat → Option Nat, E 7 = aQ G 3 5 fz ∧ ∀ i, i < k → fz i = some (ad (98 + 9 * i))) ∧ (∃ fp : Nat → Option Nat, E 8 = aQ G 4 6 fp ∧ ∀ i, i < 6 → fp i = some (ad (9 + 6 * i)))
def J8 (G : Gl) (ad : Nat → Nat) (k : Nat) (E0 E : Nat → va_E) : Prop := k ≤ 5 ∧ B8 G ad k E0 ∧ JJ G ad (98 + 9 * k) (Ty8 k) P8 E0 E
section J8R
variable {G : Gl} {ad : Nat → Nat} {k : Nat} {E0 E E1 : Nat → va_E}
theorem J8.low (h : J8 G ad k E0 E) {j : Nat} (hj : j < 45) : E j = E0 j := h.2.2.1 j (Or.inl hj)
theorem J8.c0 (h : J8 G ad k E0 E) : ∃ io : Nat → Int32, E 0 = ob 8 (rfs ad [1, 6, 8, 48, 45, 51]) io := by
  rw [h.low (j := 0) (by decide)]; exact h.2.1.1
theorem J8.cal (h : J8 G ad k E0 E) : ∃ ic md ms ld ys : Nat → Int32, E 1 = ob 0 (rfs ad [2, 3, 4, 5]) ic ∧ E 2 = aI G 12 md ∧ E 3 = aI G 12 ms ∧ E 4 = aI G 100 ld ∧ E 5 = aI G 101 ys ∧ CalP ic md ∧ CalF ic md ms ld ys := by
  obtain ⟨ic, md, ms, ld, ys, h1, h2, h3, h4, h5, hP, hF⟩ := h.2.1.2.1
  exact ⟨ic, md, ms, ld, ys, (h.low (by decide)).trans h1, (h.low (by decide)).trans h2, (h.low (by decide)).trans h3, (h.low (by decide)).trans h4, (h.low (by decide)).trans h5, hP, hF⟩
theorem J8.c7 (h : J8 G ad k E0 E) : ∃ fz : Nat → Option Nat, E 7 = aQ G 3 5 fz ∧ ∀ i, i < k → fz i = some (ad (98 + 9 * i)) := by
  rw [h.low (j := 7) (by decide)]; exact h.2.1.2.2.1
theorem J8.c8 (h : J8 G ad k E0 E) : ∃ fp : Nat → Option Nat, E 8 = aQ G 4 6 fp ∧ ∀ i, i < 6 → fp i = some (ad (9 + 6 * i)) := by
  rw [h.low (j := 8) (by decide)]; exact h.2.1.2.2.2
theorem J8.with (h : J8 G ad k E0 E) (h1 : JJ G ad (98 + 9 * k) (Ty8 k) P8 E0 E1) : J8 G ad k E0 E1 := ⟨h.1, h.2.1, h1⟩
theorem J8.pg (h : J8 G ad k E0 E) {c : Nat} (hc : PC c) : ∃ sz : Int32, PgW G ad c E sz ∧ 0 ≤ sz.toInt ∧ sz.toInt ≤ 10 := by
  have hn := hc.n
  obtain ⟨ip, h0, b0⟩ := h.2.2.getO (by omega) (hc.t0 k)
  obtain ⟨f1, h1, -⟩ := h.2.2.getA (by omega) (hc.t1 k)
  obtain ⟨f2, h2, -⟩ := h.2.2.getA (by omega) (hc.t2 k)
  obtain ⟨f3, h3, -⟩ := h.2.2.getA (by omega) (hc.t3 k)
  obtain ⟨f4, h4, -⟩ := h.2.2.getA (by omega) (hc.t4 k)
  obtain ⟨f5, h5, -⟩ := h.2.2.getA (by omega) (hc.t5 k)
  have g5 : (0 : Int) ≤ (ip 5).toInt ∧ (ip 5).toInt ≤ 8 := b0 5
  have g6 : (0 : Int) ≤ (ip 6).toInt ∧ (ip 6).toInt ≤ 10 := b0 6
  exact ⟨ip 6, ⟨ip, f1, f2, f3, f4, f5, h0, rfl, g5.1, g5.2, h1, h2, h3, h4, h5⟩, g6.1, g6.2⟩
theorem HasTy.any {f : Nat → Int32} {N : Nat} {L : List Nat} {x : va_E} (h : x = aI G N f) : HasTy G ad (1, N, L, anyB) x := ⟨fun q => absurd (show (1 : Nat) = 0 from q) (by decide), fun _ => ⟨f, h, fun q => ti_any (f q)⟩, fun q => absurd (show (1 : Nat) = 2 from q) (by decide), fun q => absurd (show (1 : Nat) = 3 from q) (by decide)⟩
theorem pg_ty {c : Nat} {sz : Int32} (hW : PgW G ad c E sz) (h1 : 0 ≤ sz.toInt) (h2 : sz.toInt ≤ 10) {r : Nat} (hr : r < 6) : HasTy G ad (pgT c r) (E (c + r)) := by
  obtain ⟨ip, po, px, py, tp, kd, hE, hsz, hh1, hh2, e1, e2, e3, e4, e5⟩ := hW
  match r, hr with
  | 0, _ =>
    refine ⟨fun _ => ⟨ip, hE, fun q => ?_⟩, fun q => absurd (show (0 : Nat) = 1 from q) (by decide), fun q => absurd (show (0 : Nat) = 2 from q) (by decide), fun q => absurd (show (0 : Nat) = 3 from q) (by decide)⟩
    show (bd5 q).1 ≤ (ip q).toInt ∧ (ip q).toInt ≤ (bd5 q).2
    unfold bd5
    by_cases q5 : q = 5
    · rw [if_pos q5, q5]; exact ⟨hh1, hh2⟩
    · rw [if_neg q5]
      by_cases q6 : q = 6
      · rw [if_pos q6, q6, hsz]; exact ⟨h1, h2⟩
      · rw [if_neg q6]; exact ti_any _
  | 1, _ => exact HasTy.any e1
  | 2, _ => exact HasTy.any e2
  | 3, _ => exact HasTy.any e3
  | 4, _ => exact HasTy.any e4
  | 5, _ => exact HasTy.any e5
theorem J8.setP (h : J8 G ad k E0 E) {c : Nat} (hc : c = 52 ∨ c = 58) {sz : Int32} (hW : PgW G ad c E1 sz) (h1 : 0 ≤ sz.toInt) (h2 : sz.toInt ≤ 10) (hF : Fr6 c E E1) : J8 G ad k E0 E1 := by
  have hp : PC c := Or.inr hc
  refine h.with ⟨fun j hj => (hF j ?_).trans (h.2.2.1 j hj), fun j hj => ?_⟩
  · unfold P8 at hj; omega
  · by_cases q : j < c ∨ c + 6 ≤ j
    · rw [hF j q]; exact h.2.2.2 j hj
    · obtain ⟨r, hr, rfl⟩ : ∃ r, r < 6 ∧ j = c + r := ⟨j - c, by omega, by omega⟩
      rw [hp.t k hr]
      exact pg_ty hW h1 h2 hr
end J8R
