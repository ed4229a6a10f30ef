/-! ===== changes taken one behind the other ===== -/
def tkS (st : Nat × (Nat → Int) × (Nat → Int)) (p : Int × Int) : Nat × (Nat → Int) × (Nat → Int) :=
  if 0 ≤ p.1 - st.2.2 st.1 ∧ (st.1 = 0 ∨ st.2.1 st.1 < p.1 - st.2.2 st.1) then (st.1 + 1, va_up st.2.1 (st.1 + 1) (p.1 - st.2.2 st.1), va_up st.2.2 (st.1 + 1) p.2) else st
def st0 (v0 : Int) : Nat × (Nat → Int) × (Nat → Int) := (0, fun _ => 0, fun _ => v0)
def TKl (v0 : Int) (L : List (Int × Int)) : Nat × (Nat → Int) × (Nat → Int) := L.foldl tkS (st0 v0)
/-- arrays that hold a state of it -/
def ZR (c : Int) (ss os : Nat → Int32) (st : Nat × (Nat → Int) × (Nat → Int)) : Prop := (st.1 : Int) = c ∧ ∀ i, i ≤ st.1 → (ss i).toInt = st.2.1 i ∧ (os i).toInt = st.2.2 i
/-- what holds of such a state: D bounds the walls -/
def okT (D : Int) (st : Nat × (Nat → Int) × (Nat → Int)) : Prop := st.2.1 0 = 0 ∧ (∀ i, i ≤ st.1 → 0 ≤ st.2.1 i ∧ st.2.1 i ≤ D + 720) ∧ (∀ i, 1 ≤ i → i < st.1 → st.2.1 i < st.2.1 (i + 1)) ∧ ∀ i, i ≤ st.1 → -720 ≤ st.2.2 i ∧ st.2.2 i ≤ 720
theorem okT_0 {v0 D : Int} (h : -720 ≤ v0 ∧ v0 ≤ 720) (hD : 0 ≤ D) : okT D (st0 v0) := ⟨rfl, fun i _ => ⟨Int.le_refl 0, by show (0 : Int) ≤ D + 720; omega⟩, fun i h1 h2 => absurd (show i < 0 from h2) (by omega), fun i _ => h⟩
theorem okT_s {D : Int} {st : Nat × (Nat → Int) × (Nat → Int)} {p : Int × Int} (h : okT D st) (hp : p.1 ≤ D) (hv : -720 ≤ p.2 ∧ p.2 ≤ 720) : okT D (tkS st p) := by
  obtain ⟨h0, h1, h2, h3⟩ := h
  unfold tkS
  by_cases c : 0 ≤ p.1 - st.2.2 st.1 ∧ (st.1 = 0 ∨ st.2.1 st.1 < p.1 - st.2.2 st.1)
  · rw [if_pos c]
    have b := h3 st.1 (Nat.le_refl _)
    refine ⟨?_, fun i hi => ?_, fun i a b' => ?_, fun i hi => ?_⟩
    · show va_up st.2.1 (st.1 + 1) (p.1 - st.2.2 st.1) 0 = 0
      simp [va_up, h0]
    · show 0 ≤ va_up st.2.1 (st.1 + 1) (p.1 - st.2.2 st.1) i ∧ va_up st.2.1 (st.1 + 1) (p.1 - st.2.2 st.1) i ≤ D + 720
      have hi : i ≤ st.1 + 1 := hi
      by_cases q : i = st.1 + 1
      · subst q; simp only [va_up, if_true]; omega
      · simp only [va_up, if_neg q]; exact h1 i (by omega)
    · show va_up st.2.1 (st.1 + 1) (p.1 - st.2.2 st.1) i < va_up st.2.1 (st.1 + 1) (p.1 - st.2.2 st.1) (i + 1)
      have b' : i < st.1 + 1 := b'
      by_cases q : i = st.1
      · simp only [va_up, if_neg (show ¬ i = st.1 + 1 by omega), if_pos (show i + 1 = st.1 + 1 by omega)]
        rcases c.2 with e | e
        · omega
        · rw [q]; exact e
      · simp only [va_up, if_neg (show ¬ i = st.1 + 1 by omega), if_neg (show ¬ i + 1 = st.1 + 1 by omega)]
        exact h2 i a (by omega)
    · show -720 ≤ va_up st.2.2 (st.1 + 1) p.2 i ∧ va_up st.2.2 (st.1 + 1) p.2 i ≤ 720
      have hi : i ≤ st.1 + 1 := hi
      by_cases q : i = st.1 + 1
      · subst q; simp only [va_up, if_true]; exact hv
      · simp only [va_up, if_neg q]; exact h3 i (by omega)
  · rw [if_neg c]; exact ⟨h0, h1, h2, h3⟩
theorem tkS_le (st : Nat × (Nat → Int) × (Nat → Int)) (p : Int × Int) : (tkS st p).1 ≤ st.1 + 1 ∧ st.1 ≤ (tkS st p).1 := by
  unfold tkS
  split
  · exact ⟨Nat.le_refl _, Nat.le_succ _⟩
  · exact ⟨Nat.le_succ _, Nat.le_refl _⟩
theorem TK_app {v0 : Int} {L : List (Int × Int)} {p : Int × Int} : TKl v0 (L ++ [p]) = tkS (TKl v0 L) p := by
  unfold TKl
  rw [List.foldl_append]
  rfl
theorem TK_ok {v0 D : Int} (h : -720 ≤ v0 ∧ v0 ≤ 720) (hD : 0 ≤ D) : ∀ L : List (Int × Int), (∀ p ∈ L, p.1 ≤ D ∧ -720 ≤ p.2 ∧ p.2 ≤ 720) → okT D (TKl v0 L) ∧ (TKl v0 L).1 ≤ L.length := by
  have K : ∀ (L : List (Int × Int)) (st : Nat × (Nat → Int) × (Nat → Int)), okT D st → (∀ p ∈ L, p.1 ≤ D ∧ -720 ≤ p.2 ∧ p.2 ≤ 720) → okT D (L.foldl tkS st) ∧ (L.foldl tkS st).1 ≤ st.1 + L.length := by
    intro L
    induction L with
    | nil => intro st hs _; exact ⟨hs, Nat.le_refl _⟩
    | cons p L ih =>
      intro st hs hL
      have hp := hL p List.mem_cons_self
      obtain ⟨a, b⟩ := ih (tkS st p) (okT_s hs hp.1 hp.2) (fun q hq => hL q (List.mem_cons_of_mem _ hq))
      refine ⟨a, ?_⟩
      have c := (tkS_le st p).1
      show (L.foldl tkS (tkS st p)).1 ≤ st.1 + (L.length + 1)
      omega
  intro L hL
  have := K L (st0 v0) (okT_0 h hD) hL
  exact ⟨this.1, by have h2 := this.2; show (L.foldl tkS (st0 v0)).1 ≤ _; have h3 : (st0 v0).1 = 0 := rfl; omega⟩
theorem ZR_take {c : Int} {ss os : Nat → Int32} {st : Nat × (Nat → Int) × (Nat → Int)} {w v m : Int32} {z : Int} {w' : Int} (h : ZR c ss os st) (hm : m.toInt = w' - st.2.2 st.1) (hz : z = c + 1) (hc : 0 ≤ m.toInt ∧ (c = 0 ∨ st.2.1 st.1 < m.toInt)) : ZR z (upd ss z.toNat m) (upd os z.toNat v) (tkS st (w', v.toInt)) := by
  obtain ⟨h1, h2⟩ := h
  have hcc : 0 ≤ (w', v.toInt).1 - st.2.2 st.1 ∧ (st.1 = 0 ∨ st.2.1 st.1 < (w', v.toInt).1 - st.2.2 st.1) := by
    show 0 ≤ w' - st.2.2 st.1 ∧ (st.1 = 0 ∨ st.2.1 st.1 < w' - st.2.2 st.1)
    rw [← hm]
    omega
  have hzn : z.toNat = st.1 + 1 := by omega
  unfold tkS
  rw [if_pos hcc, hzn]
  refine ⟨by show ((st.1 + 1 : Nat) : Int) = z; omega, fun i hi => ?_⟩
  have hi : i ≤ st.1 + 1 := hi
  by_cases q : i = st.1 + 1
  · subst q
    rw [upd_same, upd_same]
    show m.toInt = va_up st.2.1 (st.1 + 1) (w' - st.2.2 st.1) (st.1 + 1) ∧ v.toInt = va_up st.2.2 (st.1 + 1) v.toInt (st.1 + 1)
    simp only [va_up, if_true]
    exact ⟨hm, trivial⟩
  · rw [upd_ne q, upd_ne q]
    show (ss i).toInt = va_up st.2.1 (st.1 + 1) _ i ∧ (os i).toInt = va_up st.2.2 (st.1 + 1) _ i
    simp only [va_up, if_neg q]
    exact h2 i (by omega)
theorem ZR_leave {st : Nat × (Nat → Int) × (Nat → Int)} {w v : Int} {c : Int} {ss os : Nat → Int32} (h : ZR c ss os st) (hc : ¬ (0 ≤ w - st.2.2 st.1 ∧ (c = 0 ∨ st.2.1 st.1 < w - st.2.2 st.1))) : ZR c ss os (tkS st (w, v)) := by
  have h1 := h.1
  unfold tkS
  rw [if_neg (fun q => hc ⟨q.1, by rcases q.2 with e | e; (left; omega); (right; exact e)⟩)]
  exact h
