/-! ===== the reference's cells: shapes and intervals ===== -/
def bdc (lo hi : Int) : Nat → Int × Int := fun _ => (lo, hi)
def TyM : Nat → CT := fun j =>
  if j = 71 then (1, 5, [], anyB) else if j = 72 then (1, 40, [], bdc 0 99) else if j = 73 then (1, 40, [], bdc 0 99) else if j = 74 then (1, 40, [], bdc 0 11999)
  else if j = 75 then (1, 40, [], anyB) else if j = 76 then (1, 40, [], anyB) else if j = 77 then (1, 40, [], anyB) else if j = 78 then (1, 5, [], bdc 0 8)
  else if j = 79 then (3, 5, [], anyB) else if j = 80 then (1, 4005, [], anyB) else if j = 81 then (1, 4005, [], anyB) else if j = 82 then (1, 5, [], bdc 0 800)
  else if j = 83 then (1, 800, [], anyB) else if j = 84 then (1, 800, [], anyB) else if j = 85 then (1, 60, [], anyB) else if j = 86 then (1, 60, [], anyB) else if j = 87 then (1, 60, [], anyB)
  else if j = 88 then (1, 6, [], bdc 0 10) else if j = 89 then (1, 10, [], anyB) else if j = 90 then (1, 10, [], anyB) else if j = 91 then (1, 10, [], anyB)
  else if j = 92 then (1, 8, [], anyB) else if j = 93 then (1, 8, [], anyB) else if j = 94 then (1, 10, [], anyB) else if j = 95 then (1, 10, [], anyB) else if j = 96 then (1, 10, [], anyB)
  else if j = 97 then (1, 40000, [], anyB) else (9, 0, [], anyB)
def PR (j : Nat) : Prop := j < 68 ∨ j = 69 ∨ (71 ≤ j ∧ j < 79) ∨ (85 ≤ j ∧ j < 92) ∨ (94 ≤ j ∧ j < 97) ∨ 98 ≤ j
def PT (j : Nat) : Prop := j < 68 ∨ j = 69 ∨ (71 ≤ j ∧ j < 79) ∨ (85 ≤ j ∧ j < 89) ∨ 98 ≤ j
def JM (G : Gl) (ad : Nat → Nat) (n : Nat) (ic md : Nat → Int32) (bd : Nat → Int × Int) (P : Nat → Prop) (E0 E : Nat → va_E) : Prop := (∃ im : Nat → Int32, MCal G ad E im ic md ∧ ∀ k, (bd k).1 ≤ (im k).toInt ∧ (im k).toInt ≤ (bd k).2) ∧ JJ G ad n TyM P E0 E ∧ 98 ≤ n ∧ bd 7 = (0, 1) ∧ (0 ≤ (bd 16).1 ∧ (bd 16).2 ≤ 5)
section JMR
variable {G : Gl} {ad : Nat → Nat} {n : Nat} {ic md : Nat → Int32} {bd : Nat → Int × Int} {P : Nat → Prop} {E0 E E1 : Nat → va_E}
theorem MCal.b {im : Nat → Int32} (h : MCal G ad E im ic md) : (2 ≤ (im 1).toInt ∧ (im 1).toInt ≤ 50) ∧ (2 ≤ (im 2).toInt ∧ (im 2).toInt ≤ 100) ∧ (0 ≤ (im 3).toInt ∧ (im 3).toInt < 12) ∧ (2 ≤ (im 4).toInt ∧ (im 4).toInt ≤ 10) ∧ (0 ≤ (im 5).toInt ∧ (im 5).toInt ≤ 9) := by
  have h1 := h.1
  have hb := cal_b h.2.1
  rw [← h1] at hb
  exact hb
theorem MCal.up {im : Nat → Int32} {k : Nat} {v : Int32} (h : MCal G ad E im ic md) (hk : 9 ≤ k) (h1 : E1 68 = ob 9 (rX9 ad) (va_up im k v)) (o1 : ∀ j, j ≠ 68 → E1 j = E j) : MCal G ad E1 (va_up im k v) ic md := by
  obtain ⟨a1, a2, a3, a4, a5, mf, a6, a7, a8⟩ := h
  have e : ∀ q, q < 9 → va_up im k v q = im q := fun q hq => by simp [va_up, show ¬ q = k by omega]
  refine ⟨?_, a2, h1, (o1 69 (by decide)).trans a4, by rw [e 7 (by decide)]; exact a5, mf, (o1 70 (by decide)).trans a6, a7, by rw [e 7 (by decide)]; exact a8⟩
  rw [← a1]
  funext q
  unfold icm
  by_cases hq : q ≤ 8
  · rw [if_pos hq, if_pos hq, e _ (by omega)]
  · rw [if_neg hq, if_neg hq]
theorem MCal.of {im : Nat → Int32} (h : MCal G ad E im ic md) (h1 : E1 68 = E 68) (h2 : E1 69 = E 69) (h3 : E1 70 = E 70) : MCal G ad E1 im ic md := by
  obtain ⟨a1, a2, a3, a4, a5, mf, a6, a7, a8⟩ := h
  exact ⟨a1, a2, h1.trans a3, h2.trans a4, a5, mf, h3.trans a6, a7, a8⟩
theorem JM.with (h : JM G ad n ic md bd P E0 E) (h1 : JJ G ad n TyM P E0 E1) (e1 : E1 68 = E 68) (e2 : E1 69 = E 69) (e3 : E1 70 = E 70) : JM G ad n ic md bd P E0 E1 := by
  obtain ⟨⟨im, hm, hb⟩, -, h3, h4⟩ := h
  exact ⟨⟨im, hm.of e1 e2 e3, hb⟩, h1, h3, h4⟩
theorem JM.hn (h : JM G ad n ic md bd P E0 E) : 98 ≤ n := h.2.2.1
theorem JM.at68 (h : JJ G ad n TyM P E0 E) (hP : ¬ P 68) (o1 : ∀ j, j ≠ 68 → E1 j = E j) : JJ G ad n TyM P E0 E1 :=
  h.at1 hP ⟨fun q => absurd (show (9 : Nat) = 0 from q) (by decide), fun q => absurd (show (9 : Nat) = 1 from q) (by decide), fun q => absurd (show (9 : Nat) = 2 from q) (by decide), fun q => absurd (show (9 : Nat) = 3 from q) (by decide)⟩ o1
theorem JM.put {im : Nat → Int32} {k : Nat} {v : Int32} (h : JM G ad n ic md bd P E0 E) (hm : MCal G ad E im ic md) (hb : ∀ q, (bd q).1 ≤ (im q).toInt ∧ (im q).toInt ≤ (bd q).2) (hk : 9 ≤ k) (hP : ¬ P 68) (hv : (bd k).1 ≤ v.toInt ∧ v.toInt ≤ (bd k).2) (h1 : E1 68 = ob 9 (rX9 ad) (va_up im k v)) (o1 : ∀ j, j ≠ 68 → E1 j = E j) : JM G ad n ic md bd P E0 E1 ∧ MCal G ad E1 (va_up im k v) ic md ∧ ∀ q, (bd q).1 ≤ (va_up im k v q).toInt ∧ (va_up im k v q).toInt ≤ (bd q).2 := by
  have hm1 := hm.up hk h1 o1
  have hb1 := up_bd hb hv
  exact ⟨⟨⟨_, hm1, hb1⟩, JM.at68 h.2.1 hP o1, h.2.2⟩, hm1, hb1⟩
theorem JM.mr {im : Nat → Int32} (h : JM G ad n ic md bd P E0 E) (hb : ∀ q, (bd q).1 ≤ (im q).toInt ∧ (im q).toInt ≤ (bd q).2) (hP : ¬ P 68) (hP2 : ¬ P 70) (hm : MR G ad E E1 im ic md) : JM G ad n ic md bd P E0 E1 := by
  obtain ⟨im', a1, a2, a3⟩ := hm
  have a5 := a2.2.2.2.2.1
  refine ⟨⟨im', a2, fun q => ?_⟩, ⟨fun j hj => (a3 j (fun q => hP (q ▸ hj)) (fun q => hP2 (q ▸ hj))).trans (h.2.1.1 j hj), fun j hj => ?_⟩, h.2.2⟩
  · by_cases q7 : q = 7
    · rw [q7, h.2.2.2.1]
      rcases a5 with q | q <;> rw [q] <;> decide
    · rw [a1 q q7]; exact hb q
  · by_cases j1 : j = 68
    · rw [j1]; exact ⟨fun q => absurd (show (9 : Nat) = 0 from q) (by decide), fun q => absurd (show (9 : Nat) = 1 from q) (by decide), fun q => absurd (show (9 : Nat) = 2 from q) (by decide), fun q => absurd (show (9 : Nat) = 3 from q) (by decide)⟩
    · by_cases j2 : j = 70
      · rw [j2]; exact ⟨fun q => absurd (show (9 : Nat) = 0 from q) (by decide), fun q => absurd (show (9 : Nat) = 1 from q) (by decide), fun q => absurd (show (9 : Nat) = 2 from q) (by decide), fun q => absurd (show (9 : Nat) = 3 from q) (by decide)⟩
      · rw [a3 j j1 j2]; exact h.2.1.2 j hj
theorem JM.self (h : JM G ad n ic md bd P E0 E) : JM G ad n ic md bd PR E E := ⟨h.1, ⟨fun _ _ => rfl, h.2.1.2⟩, h.2.2⟩
theorem JM.trans (h : JM G ad n ic md bd P E0 E) {bd' : Nat → Int × Int} (hP : ∀ j, P j → PR j) (h1 : JM G ad n ic md bd' PR E E1) : JM G ad n ic md bd' P E0 E1 := ⟨h1.1, ⟨fun j hj => (h1.2.1.1 j (hP j hj)).trans (h.2.1.1 j hj), h1.2.1.2⟩, h1.2.2⟩
theorem PT_PR {j : Nat} (h : PT j) : PR j := by
  unfold PT at h; unfold PR; omega
theorem MR1.mr {im : Nat → Int32} (h : MR1 G ad E E1 im ic md) : MR G ad E E1 im ic md := by
  obtain ⟨im', a, _, b, c⟩ := h
  exact ⟨im', a, b, c⟩
end JMR
