/-! ===== the reference's fields told exactly: bounds that are put anew ===== -/
def upB (bd : Nat → Int × Int) (k : Nat) (v : Int × Int) : Nat → Int × Int := fun q => if q = k then v else bd q
theorem upB_up {bd : Nat → Int × Int} {k : Nat} {v u : Int × Int} : upB (upB bd k v) k u = upB bd k u := by
  funext q
  unfold upB
  by_cases h : q = k
  · rw [if_pos h, if_pos h]
  · rw [if_neg h, if_neg h, if_neg h]
section JMX
variable {G : Gl} {ad : Nat → Nat} {n : Nat} {ic md : Nat → Int32} {bd : Nat → Int × Int} {P : Nat → Prop} {E0 E E1 : Nat → va_E} {a b c d : Int} {k : Nat}
theorem JM.weak (h : JM G ad n ic md bd P E0 E) {bd' : Nat → Int × Int} (hb : ∀ q, (bd' q).1 ≤ (bd q).1 ∧ (bd q).2 ≤ (bd' q).2) (h7 : bd' 7 = (0, 1)) (h16 : 0 ≤ (bd' 16).1 ∧ (bd' 16).2 ≤ 5) : JM G ad n ic md bd' P E0 E := by
  obtain ⟨⟨im, hm, hi⟩, h2, h3, h4⟩ := h
  exact ⟨⟨im, hm, fun q => by have h1 := hb q; have h2 := hi q; omega⟩, h2, h3, h7, h16⟩
theorem upB7 (hk : 17 ≤ k) {v : Int × Int} (h : bd 7 = (0, 1)) : upB bd k v 7 = (0, 1) := by
  unfold upB; rw [if_neg (by omega)]; exact h
theorem upB16 (hk : 17 ≤ k) {v : Int × Int} (h : 0 ≤ (bd 16).1 ∧ (bd 16).2 ≤ 5) : 0 ≤ (upB bd k v 16).1 ∧ (upB bd k v 16).2 ≤ 5 := by
  unfold upB; rw [if_neg (by omega)]; exact h
theorem upB_n7 (hk : 17 ≤ k) {v : Int × Int} (h : upB bd k v 7 = (0, 1)) : bd 7 = (0, 1) := by
  unfold upB at h; rw [if_neg (by omega)] at h; exact h
theorem upB_n16 (hk : 17 ≤ k) {v : Int × Int} (h : 0 ≤ (upB bd k v 16).1 ∧ (upB bd k v 16).2 ≤ 5) : 0 ≤ (bd 16).1 ∧ (bd 16).2 ≤ 5 := by
  unfold upB at h; rw [if_neg (by omega)] at h; exact h
theorem JM.toB (h : JM G ad n ic md (upB bd k (a, b)) P E0 E) (hk : 17 ≤ k) (h1 : c ≤ a) (h2 : b ≤ d) : JM G ad n ic md (upB bd k (c, d)) P E0 E := by
  refine h.weak (fun q => ?_) (upB7 hk (upB_n7 hk h.2.2.2.1)) (upB16 hk (upB_n16 hk h.2.2.2.2))
  unfold upB
  by_cases hq : q = k
  · rw [if_pos hq, if_pos hq]; exact ⟨h1, h2⟩
  · rw [if_neg hq, if_neg hq]; exact ⟨Int.le_refl _, Int.le_refl _⟩
theorem JM.inB (h : JM G ad n ic md bd P E0 E) (hk : 17 ≤ k) (h1 : c ≤ (bd k).1) (h2 : (bd k).2 ≤ d) : JM G ad n ic md (upB bd k (c, d)) P E0 E := by
  refine h.weak (fun q => ?_) (upB7 hk h.2.2.2.1) (upB16 hk h.2.2.2.2)
  unfold upB
  by_cases hq : q = k
  · rw [if_pos hq, hq]; exact ⟨h1, h2⟩
  · rw [if_neg hq]; exact ⟨Int.le_refl _, Int.le_refl _⟩
theorem JM.outB (h : JM G ad n ic md (upB bd k (a, b)) P E0 E) (hk : 17 ≤ k) (h1 : (bd k).1 ≤ a) (h2 : b ≤ (bd k).2) : JM G ad n ic md bd P E0 E := by
  refine h.weak (fun q => ?_) (upB_n7 hk h.2.2.2.1) (upB_n16 hk h.2.2.2.2)
  unfold upB
  by_cases hq : q = k
  · rw [if_pos hq, hq]; exact ⟨h1, h2⟩
  · rw [if_neg hq]; exact ⟨Int.le_refl _, Int.le_refl _⟩
theorem JM.putN {im : Nat → Int32} {v : Int32} (h : JM G ad n ic md bd P E0 E) (hm : MCal G ad E im ic md) (hb : ∀ q, (bd q).1 ≤ (im q).toInt ∧ (im q).toInt ≤ (bd q).2) (hk : 17 ≤ k) (hP : ¬ P 68) (h1 : E1 68 = ob 9 (rX9 ad) (va_up im k v)) (o1 : ∀ j, j ≠ 68 → E1 j = E j) : JM G ad n ic md (upB bd k (v.toInt, v.toInt)) P E0 E1 ∧ MCal G ad E1 (va_up im k v) ic md ∧ ∀ q, (upB bd k (v.toInt, v.toInt) q).1 ≤ (va_up im k v q).toInt ∧ (va_up im k v q).toInt ≤ (upB bd k (v.toInt, v.toInt) q).2 := by
  have hm1 := hm.up (by omega) h1 o1
  have hb1 : ∀ q, (upB bd k (v.toInt, v.toInt) q).1 ≤ (va_up im k v q).toInt ∧ (va_up im k v q).toInt ≤ (upB bd k (v.toInt, v.toInt) q).2 := by
    intro q
    by_cases hq : q = k
    · subst hq; simp [upB, va_up]
    · simpa [upB, va_up, hq] using hb q
  exact ⟨⟨⟨_, hm1, hb1⟩, JM.at68 h.2.1 hP o1, h.2.2.1, upB7 hk h.2.2.2.1, upB16 hk h.2.2.2.2⟩, hm1, hb1⟩
theorem JM.putB {im : Nat → Int32} {v : Int32} {ab : Int × Int} (h : JM G ad n ic md (upB bd k ab) P E0 E) (hm : MCal G ad E im ic md) (hb : ∀ q, (upB bd k ab q).1 ≤ (im q).toInt ∧ (im q).toInt ≤ (upB bd k ab q).2) (hk : 17 ≤ k) (hP : ¬ P 68) (h1 : E1 68 = ob 9 (rX9 ad) (va_up im k v)) (o1 : ∀ j, j ≠ 68 → E1 j = E j) : JM G ad n ic md (upB bd k (v.toInt, v.toInt)) P E0 E1 ∧ MCal G ad E1 (va_up im k v) ic md ∧ ∀ q, (upB bd k (v.toInt, v.toInt) q).1 ≤ (va_up im k v q).toInt ∧ (va_up im k v q).toInt ≤ (upB bd k (v.toInt, v.toInt) q).2 := by
  have h2 := h.putN hm hb hk hP h1 o1
  rw [upB_up] at h2
  exact h2
end JMX
/-- what a line of a program does to the height of the pile, and what it needs -/
def dlt (x : Int) : Int := if x = 0 ∨ x = 10 then 1 else if x = 8 ∨ x = 9 then -1 else 0
def ned (x : Int) : Int := if x = 0 then 0 else if (1 ≤ x ∧ x ≤ 7) ∨ x = 10 then 1 else 2
theorem dlt_1 {x : Int} (h : x = 0 ∨ x = 10) : dlt x = 1 := by unfold dlt; rw [if_pos h]
theorem dlt_m {x : Int} (h : x = 8 ∨ x = 9) : dlt x = -1 := by unfold dlt; rw [if_neg (by omega), if_pos h]
theorem dlt_0 {x : Int} (h : x ≠ 0 ∧ x ≠ 10 ∧ x ≠ 8 ∧ x ≠ 9) : dlt x = 0 := by unfold dlt; rw [if_neg (by omega), if_neg (by omega)]
theorem ned_0 {x : Int} (h : x = 0) : ned x = 0 := by unfold ned; rw [if_pos h]
theorem ned_1 {x : Int} (h : (1 ≤ x ∧ x ≤ 7) ∨ x = 10) : ned x = 1 := by unfold ned; rw [if_neg (by omega), if_pos h]
theorem ned_2 {x : Int} (h : x < 0 ∨ x = 8 ∨ x = 9 ∨ 10 < x) : ned x = 2 := by unfold ned; rw [if_neg (by omega), if_neg (by omega)]
theorem dn_b (x : Int) : 0 ≤ ned x + dlt x := by
  unfold ned dlt
  by_cases h0 : x = 0
  · rw [if_pos h0, if_pos (Or.inl h0)]; decide
  · rw [if_neg h0]
    by_cases h1 : x = 10
    · rw [if_pos (Or.inr h1), if_pos (Or.inr h1)]; decide
    · rw [if_neg (show ¬ (x = 0 ∨ x = 10) by omega)]
      by_cases h2 : x = 8 ∨ x = 9
      · rw [if_pos h2, if_neg (by omega)]; decide
      · rw [if_neg h2]; split <;> decide
def hgt (f : Nat → Int32) : Nat → Int
  | 0 => 0
  | k + 1 => hgt f k + dlt (f k).toInt
def okH (f : Nat → Int32) (m : Nat) : Prop := ∀ k, k < m → ned (f k).toInt ≤ hgt f k ∧ hgt f k + dlt (f k).toInt ≤ 8
theorem okH_0 (f : Nat → Int32) : okH f 0 := fun k hk => absurd hk (Nat.not_lt_zero k)
theorem okH_s {f : Nat → Int32} {m : Nat} (h : okH f m) (h1 : ned (f m).toInt ≤ hgt f m ∧ hgt f m + dlt (f m).toInt ≤ 8) : okH f (m + 1) := by
  intro k hk
  by_cases q : k = m
  · rw [q]; exact h1
  · exact h k (by omega)
theorem okH_b {f : Nat → Int32} {m : Nat} (h : okH f m) : ∀ k, k ≤ m → 0 ≤ hgt f k ∧ hgt f k ≤ 8 := by
  intro k hk
  match k, hk with
  | 0, _ => exact ⟨show (0 : Int) ≤ 0 by decide, show (0 : Int) ≤ 8 by decide⟩
  | k + 1, hk =>
    have h1 := h k (by omega)
    have h2 := dn_b (f k).toInt
    show 0 ≤ hgt f k + dlt (f k).toInt ∧ hgt f k + dlt (f k).toInt ≤ 8
    omega
def OXm (fo fx : Nat → Int32) (m : Nat) : Prop := ∀ j, j < m → ((fo j).toInt = 1 ∨ (fo j).toInt = 4) → 0 ≤ (fx j).toInt ∧ (fx j).toInt ≤ 4
def TK (G : Gl) (gop gx gy : Nat → Int32) (b0 : Nat) (E : Nat → va_E) (k : Nat) : Prop := ∀ fo fx fy : Nat → Int32, E 89 = aI G 10 fo → E 90 = aI G 10 fx → E 91 = aI G 10 fy → ∀ j, j < k → fo j = gop (b0 + j) ∧ fx j = gx (b0 + j) ∧ fy j = gy (b0 + j)
theorem TK_0 {G : Gl} {gop gx gy : Nat → Int32} {b0 : Nat} {E : Nat → va_E} : TK G gop gx gy b0 E 0 := fun _ _ _ _ _ _ j hj => absurd hj (Nat.not_lt_zero j)
theorem TK_s {G : Gl} {gop gx gy f1 f2 f3 : Nat → Int32} {b0 : Nat} {E1 E2 E3 E4 : Nat → va_E} {k : Nat} {a b c : Int32} (h0 : TK G gop gx gy b0 E1 k) (e1 : E1 89 = aI G 10 f1) (s1 : E2 89 = aI G 10 (upd f1 k a)) (o1 : ∀ j, j ≠ 89 → E2 j = E1 j) (e2 : E2 90 = aI G 10 f2) (s2 : E3 90 = aI G 10 (upd f2 k b)) (o2 : ∀ j, j ≠ 90 → E3 j = E2 j) (e3 : E3 91 = aI G 10 f3) (s3 : E4 91 = aI G 10 (upd f3 k c)) (o3 : ∀ j, j ≠ 91 → E4 j = E3 j) (ha : a = gop (b0 + k)) (hb : b = gx (b0 + k)) (hc : c = gy (b0 + k)) : TK G gop gx gy b0 E4 (k + 1) := by
  intro fo fx fy h1 h2 h3 j hj
  rw [o3 89 (by decide), o2 89 (by decide), s1] at h1
  rw [o3 90 (by decide), s2] at h2
  rw [s3] at h3
  rw [← aI_inj h1, ← aI_inj h2, ← aI_inj h3]
  have g1 : E1 90 = aI G 10 f2 := (o1 90 (by decide)).symm.trans e2
  have g2 : E1 91 = aI G 10 f3 := (o1 91 (by decide)).symm.trans ((o2 91 (by decide)).symm.trans e3)
  by_cases q : j = k
  · subst q; simp [upd, ha, hb, hc]
  · have := h0 f1 f2 f3 e1 g1 g2 j (by omega)
    simpa [upd, q] using this
def LXg (gop gx : Nat → Int32) : Prop := ∀ j, j < 60 → ((gop j).toInt = 1 ∨ (gop j).toInt = 4) → 0 ≤ (gx j).toInt ∧ (gx j).toInt ≤ 4
