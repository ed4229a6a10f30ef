/-! ===== meetings: counted day by day, and by strides ===== -/
def MTn (ic : Nat → Int32) (T : TST) (a p q w : Int) : Nat → Nat
  | 0 => 0
  | n + 1 => if (p + (n : Int) ≤ q ∧ (p + (n : Int) + (ic 8).toInt) % (ic 7).toInt = a % 10) ∧ (w = 2 ∨ (w = 0 ∧ cntU T (1440 * (p + (n : Int)) + a / 10) (T.1 + 1) = 0) ∨ (w = 1 ∧ 1 < cntU T (1440 * (p + (n : Int)) + a / 10) (T.1 + 1))) then MTn ic T a p q w n + 1 else MTn ic T a p q w n
theorem MTn_yes {ic : Nat → Int32} {T : TST} {a p q w : Int} {n : Nat} (h1 : p + (n : Int) ≤ q) (h2 : (p + (n : Int) + (ic 8).toInt) % (ic 7).toInt = a % 10) (h3 : w = 2 ∨ (w = 0 ∧ cntU T (1440 * (p + (n : Int)) + a / 10) (T.1 + 1) = 0) ∨ (w = 1 ∧ 1 < cntU T (1440 * (p + (n : Int)) + a / 10) (T.1 + 1))) : MTn ic T a p q w (n + 1) = MTn ic T a p q w n + 1 := if_pos ⟨⟨h1, h2⟩, h3⟩
theorem MTn_no {ic : Nat → Int32} {T : TST} {a p q w : Int} {n : Nat} (h : ¬ ((p + (n : Int) ≤ q ∧ (p + (n : Int) + (ic 8).toInt) % (ic 7).toInt = a % 10) ∧ (w = 2 ∨ (w = 0 ∧ cntU T (1440 * (p + (n : Int)) + a / 10) (T.1 + 1) = 0) ∨ (w = 1 ∧ 1 < cntU T (1440 * (p + (n : Int)) + a / 10) (T.1 + 1))))) : MTn ic T a p q w (n + 1) = MTn ic T a p q w n := if_neg h
theorem MTn_le {ic : Nat → Int32} {T : TST} {a p q w : Int} : ∀ n, MTn ic T a p q w n ≤ n := by
  intro n
  induction n with
  | zero => exact Nat.le_refl _
  | succ n ih => unfold MTn; split <;> omega
theorem MTn_skip {ic : Nat → Int32} {T : TST} {a p q w : Int} {n : Nat} : ∀ d, (∀ i : Nat, n ≤ i → i < n + d → ¬ (p + (i : Int) ≤ q ∧ (p + (i : Int) + (ic 8).toInt) % (ic 7).toInt = a % 10)) → MTn ic T a p q w (n + d) = MTn ic T a p q w n := by
  intro d
  induction d with
  | zero => intro _; rfl
  | succ d ih =>
    intro h
    have e : MTn ic T a p q w (n + d + 1) = MTn ic T a p q w (n + d) := MTn_no (fun q => h (n + d) (by omega) (by omega) q.1)
    exact e.trans (ih (fun i h1 h2 => h i h1 (by omega)))
/-- behind the last day nothing is added -/
theorem MTn_end {ic : Nat → Int32} {T : TST} {a p q w : Int} {n : Nat} (h : q < p + (n : Int)) (hpq : p ≤ q) : MTn ic T a p q w n = MTn ic T a p q w (q - p + 1).toNat := by
  have e := MTn_skip (ic := ic) (T := T) (a := a) (p := p) (q := q) (w := w) (n := (q - p + 1).toNat) (n - (q - p + 1).toNat) (fun i h1 _ h3 => by have := h3.1; omega)
  rw [show (q - p + 1).toNat + (n - (q - p + 1).toNat) = n by omega] at e
  exact e
/-- the first day of the weekday from p on -/
theorem md_first {p f w t : Int} (h1 : 0 ≤ t) (h2 : t < w) : (p + (t - (p + f) % w) % w + f) % w = t := by
  rw [show p + (t - (p + f) % w) % w + f = (t - (p + f) % w) % w + (p + f) by omega, Int.emod_add_emod]
  have e : t - (p + f) % w + (p + f) = t + w * ((p + f) / w) := by
    have := Int.mul_ediv_add_emod (p + f) w
    omega
  rw [e, Int.add_mul_emod_self_left]
  exact Int.emod_eq_of_lt h1 h2
theorem md_next {d f w : Int} : (d + w + f) % w = (d + f) % w := by
  have e : d + w + f = (d + f) + w * 1 := by omega
  rw [e, Int.add_mul_emod_self_left]
/-- the start: ahead of the first day nothing is counted -/
theorem MTn_first {ic : Nat → Int32} {T : TST} {a p q w : Int} {n : Nat} (hw : 0 < (ic 7).toInt) (h : (p + (n : Int) + (ic 8).toInt) % (ic 7).toInt = a % 10) (hn : (n : Int) < (ic 7).toInt) : MTn ic T a p q w n = 0 := by
  have e := MTn_skip (ic := ic) (T := T) (a := a) (p := p) (q := q) (w := w) (n := 0) n (fun i _ h2 h3 => by
    have h4 := emod_one (a := p + (i : Int) + (ic 8).toInt) (b := p + (n : Int) + (ic 8).toInt) hw (h3.2.trans h.symm) (by omega) (by omega)
    omega)
  rw [Nat.zero_add] at e
  exact e
/-- from one day of the weekday to the next -/
theorem MTn_stride {ic : Nat → Int32} {T : TST} {a p q w : Int} {n d : Nat} (hw : 0 < (ic 7).toInt) (h : (p + (n : Int) + (ic 8).toInt) % (ic 7).toInt = a % 10) (hd : (d : Int) = (ic 7).toInt) : MTn ic T a p q w (n + d) = MTn ic T a p q w (n + 1) := by
  have e := MTn_skip (ic := ic) (T := T) (a := a) (p := p) (q := q) (w := w) (n := n + 1) (d - 1) (fun i h1 h2 h3 => by
    have h4 := emod_one (a := p + (n : Int) + (ic 8).toInt) (b := p + (i : Int) + (ic 8).toInt) hw (h.trans h3.2.symm) (by omega) (by omega)
    omega)
  rw [show n + 1 + (d - 1) = n + d by omega] at e
  exact e
def okME (ic md : Nat → Int32) (k : Nat) (x a p q w : Int) : Prop := (0 ≤ x ∧ x < (k : Int)) ∧ (0 ≤ a ∧ a / 10 < 1440 ∧ a % 10 < (ic 7).toInt) ∧ (0 ≤ p ∧ p < YSf md (ic 4).toInt (ic 5).toInt 100) ∧ (0 ≤ q ∧ q < YSf md (ic 4).toInt (ic 5).toInt 100) ∧ (p ≤ q ∧ q - p ≤ 4000) ∧ 0 ≤ w ∧ w ≤ 2
def MEp (ic md : Nat → Int32) (k : Nat) (TT : Nat → TST) (x a p q w r : Int) : Prop := (¬ okME ic md k x a p q w ∧ r = -1) ∨ ∃ i : Nat, (i : Int) = x ∧ okME ic md k x a p q w ∧ r = (MTn ic (TT i) a p q w (q - p + 1).toNat : Int)
theorem MEp_one {ic md : Nat → Int32} {k : Nat} {TT : Nat → TST} {x a p q w r s : Int} (h1 : MEp ic md k TT x a p q w r) (h2 : MEp ic md k TT x a p q w s) : r = s := by
  rcases h1 with ⟨a1, b1⟩ | ⟨i, a1, b1, c1⟩
  · rcases h2 with ⟨a2, b2⟩ | ⟨j, a2, b2, c2⟩
    · omega
    · exact absurd b2 a1
  · rcases h2 with ⟨a2, b2⟩ | ⟨j, a2, b2, c2⟩
    · exact absurd b1 a2
    · have : i = j := by omega
      subst this
      rw [c1, c2]
theorem MTn_go {ic : Nat → Int32} {T : TST} {a p q w D : Int} {n d : Nat} (hw : 0 < (ic 7).toInt) (hm : (D + (ic 8).toInt) % (ic 7).toInt = a % 10) (hD : D = p + (n : Int)) (hd : (d : Int) = (ic 7).toInt) (hq : D ≤ q) (hc : w = 2 ∨ (w = 0 ∧ cntU T (1440 * D + a / 10) (T.1 + 1) = 0) ∨ (w = 1 ∧ 1 < cntU T (1440 * D + a / 10) (T.1 + 1))) : MTn ic T a p q w (n + d) = MTn ic T a p q w n + 1 := by
  subst hD
  rw [MTn_stride hw hm hd]
  exact MTn_yes hq hm hc
theorem MTn_pass {ic : Nat → Int32} {T : TST} {a p q w D : Int} {n d : Nat} (hw : 0 < (ic 7).toInt) (hm : (D + (ic 8).toInt) % (ic 7).toInt = a % 10) (hD : D = p + (n : Int)) (hd : (d : Int) = (ic 7).toInt) (hc : ¬ (w = 2 ∨ (w = 0 ∧ cntU T (1440 * D + a / 10) (T.1 + 1) = 0) ∨ (w = 1 ∧ 1 < cntU T (1440 * D + a / 10) (T.1 + 1)))) : MTn ic T a p q w (n + d) = MTn ic T a p q w n := by
  subst hD
  rw [MTn_stride hw hm hd]
  exact MTn_no (fun x => hc x.2)
theorem MTn_y1 {ic : Nat → Int32} {T : TST} {a p q w D : Int} {n : Nat} (hD : D = p + (n : Int)) (h1 : D ≤ q) (h2 : (D + (ic 8).toInt) % (ic 7).toInt = a % 10) (h3 : w = 2 ∨ (w = 0 ∧ cntU T (1440 * D + a / 10) (T.1 + 1) = 0) ∨ (w = 1 ∧ 1 < cntU T (1440 * D + a / 10) (T.1 + 1))) : MTn ic T a p q w (n + 1) = MTn ic T a p q w n + 1 := by
  subst hD
  exact MTn_yes h1 h2 h3
theorem MTn_n1 {ic : Nat → Int32} {T : TST} {a p q w D : Int} {n : Nat} (hD : D = p + (n : Int)) (h : ¬ ((D + (ic 8).toInt) % (ic 7).toInt = a % 10 ∧ (w = 2 ∨ (w = 0 ∧ cntU T (1440 * D + a / 10) (T.1 + 1) = 0) ∨ (w = 1 ∧ 1 < cntU T (1440 * D + a / 10) (T.1 + 1))))) : MTn ic T a p q w (n + 1) = MTn ic T a p q w n := by
  subst hD
  exact MTn_no (fun x => h ⟨x.1.2, x.2⟩)
