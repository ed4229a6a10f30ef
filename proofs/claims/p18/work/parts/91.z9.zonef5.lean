/-! ===== stretches asked: which one a moment lies in, the moments of a wall ===== -/
/-- arrays as they stand: c changes, starts that go up, ends, offsets within 720 -/
def STR (c : Nat) (ss se os : Nat → Int32) : Prop := c ≤ 800 ∧ (ss 0).toInt = 0 ∧ (∀ i, i ≤ c → 0 ≤ (ss i).toInt ∧ (ss i).toInt ≤ 69400000) ∧ (∀ i, 1 ≤ i → i < c → (ss i).toInt < (ss (i + 1)).toInt) ∧ (∀ i, i ≤ c → -720 ≤ (os i).toInt ∧ (os i).toInt ≤ 720) ∧ ∀ i, i ≤ c → (se i).toInt = if i < c then mn60 (ss (i + 1)).toInt else 60000000
theorem STR_mono {c : Nat} {ss se os : Nat → Int32} (h : STR c ss se os) : ∀ (d i : Nat), 1 ≤ i → i + d ≤ c → (ss i).toInt ≤ (ss (i + d)).toInt := by
  intro d
  induction d with
  | zero => intro i _ _; exact Int.le_refl _
  | succ d ih => intro i h1 h2; have a := ih i h1 (by omega); have b := h.2.2.2.1 (i + d) (by omega) (by omega); show _ ≤ (ss (i + d + 1)).toInt; omega
theorem STR_le {c : Nat} {ss se os : Nat → Int32} (h : STR c ss se os) {i j : Nat} (hij : i ≤ j) (hj : j ≤ c) : (ss i).toInt ≤ (ss j).toInt := by
  by_cases a : i = 0
  · rw [a, h.2.1]; exact (h.2.2.1 j hj).1
  · have := STR_mono h (j - i) i (by omega) (by omega)
    rw [show i + (j - i) = j by omega] at this
    exact this
/-- stretch j is that of m: for m below 0 the first -/
def isST (c : Nat) (ss : Nat → Int32) (m : Int) (j : Nat) : Prop := j ≤ c ∧ (∀ i, 1 ≤ i → i ≤ j → (ss i).toInt ≤ m) ∧ ∀ i, j < i → i ≤ c → m < (ss i).toInt
theorem isST_one {c : Nat} {ss tt : Nat → Int32} {m : Int} {j k : Nat} (he : ∀ i, i ≤ c → (ss i).toInt = (tt i).toInt) (h1 : isST c ss m j) (h2 : isST c tt m k) : j = k := by
  by_cases a : j < k
  · have p := h1.2.2 k a h2.1
    have q := h2.2.1 k (by omega) (Nat.le_refl k)
    rw [he k h2.1] at p
    omega
  · by_cases b : k < j
    · have p := h2.2.2 j b h1.1
      have q := h1.2.1 j (by omega) (Nat.le_refl j)
      rw [he j h1.1] at q
      omega
    · omega
/-- the wall w has a moment in stretch k -/
def hitS (ss se os : Nat → Int32) (w : Int) (k : Nat) : Prop := (ss k).toInt ≤ w - (os k).toInt ∧ w - (os k).toInt < (se k).toInt
def cntH (ss se os : Nat → Int32) (w : Int) : Nat → Nat
  | 0 => 0
  | k + 1 => if (ss k).toInt ≤ w - (os k).toInt ∧ w - (os k).toInt < (se k).toInt then cntH ss se os w k + 1 else cntH ss se os w k
theorem cntH_le {ss se os : Nat → Int32} {w : Int} : ∀ k, cntH ss se os w k ≤ k := by
  intro k
  induction k with
  | zero => exact Nat.le_refl _
  | succ k ih => unfold cntH; split <;> omega
theorem cntH_skip {ss se os : Nat → Int32} {w : Int} {k : Nat} : ∀ d, (∀ i, k ≤ i → i < k + d → ¬ hitS ss se os w i) → cntH ss se os w (k + d) = cntH ss se os w k := by
  intro d
  induction d with
  | zero => intro _; rfl
  | succ d ih =>
    intro h
    show (if (ss (k + d)).toInt ≤ w - (os (k + d)).toInt ∧ w - (os (k + d)).toInt < (se (k + d)).toInt then cntH ss se os w (k + d) + 1 else cntH ss se os w (k + d)) = _
    rw [if_neg (show ¬ ((ss (k + d)).toInt ≤ w - (os (k + d)).toInt ∧ w - (os (k + d)).toInt < (se (k + d)).toInt) from h (k + d) (by omega) (by omega))]
    exact ih (fun i h1 h2 => h i h1 (by omega))
theorem cntH_congr {ss se os st sf ot : Nat → Int32} {w : Int} {c : Nat} (h : ∀ i, i < c → (ss i).toInt = (st i).toInt ∧ (se i).toInt = (sf i).toInt ∧ (os i).toInt = (ot i).toInt) : ∀ k, k ≤ c → cntH ss se os w k = cntH st sf ot w k := by
  intro k
  induction k with
  | zero => intro _; rfl
  | succ k ih =>
    intro hk
    obtain ⟨a, b, d⟩ := h k (by omega)
    show (if (ss k).toInt ≤ w - (os k).toInt ∧ w - (os k).toInt < (se k).toInt then cntH ss se os w k + 1 else cntH ss se os w k) = (if (st k).toInt ≤ w - (ot k).toInt ∧ w - (ot k).toInt < (sf k).toInt then cntH st sf ot w k + 1 else cntH st sf ot w k)
    rw [a, b, d, ih (by omega)]
/-- beyond 720 minutes there is nothing -/
theorem no_hit_low {c j i : Nat} {ss se os : Nat → Int32} {w : Int} (h : STR c ss se os) (hj : isST c ss (w - 720) j) (hi : i < j) : ¬ hitS ss se os w i := by
  intro q
  have h1 := h.2.2.2.2.1 i (by have := hj.1; omega)
  have h2 := h.2.2.2.2.2 i (by have := hj.1; omega)
  rw [if_pos (by have := hj.1; omega)] at h2
  have h3 := hj.2.1 (i + 1) (by omega) (by omega)
  have h4 := q.2
  rw [h2] at h4
  unfold mn60 at h4
  split at h4 <;> omega
theorem no_hit_high {c i j : Nat} {ss se os : Nat → Int32} {w : Int} (h : STR c ss se os) (hj : w + 720 < (ss j).toInt) (hji : j ≤ i) (hi : i ≤ c) : ¬ hitS ss se os w i := by
  intro q
  have h1 := h.2.2.2.2.1 i hi
  have h2 := STR_le h hji hi
  have h3 := q.1
  omega
