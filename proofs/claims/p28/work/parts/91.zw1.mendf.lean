/-! ===== changes of lines ===== -/
def skp (own : Int) (c : Nat) : Int := if (c : Int) < own then (c : Int) else (c : Int) + 1
def anN (k : Nat) (o x : Int) : Nat := if o = 4 then k else if o = 1 then k - 1 else if o = 5 then (if x ≠ 0 ∧ x % 1440 = 0 then 1 else 0) else if o = 6 then (if -6 ≤ x ∧ x ≤ 6 then 1 else 0) else if o = 7 then 2 else 0
def anO (o : Int) : Int := if o = 5 then 6 else if o = 6 then 5 else o
def anX (o x : Int) (c : Nat) : Int := if o = 4 then (if c = 0 then x else skp x (c - 1)) else if o = 1 then skp x c else if o = 5 then x / 1440 else if o = 6 then 1440 * x else x
def anY (o y : Int) (c : Nat) : Int := if o = 4 then (if c = 0 then 1 - y else y) else if o = 7 then skp y c else y
theorem an_ok {k : Nat} {o x y : Int} {c : Nat} (h : okLn (k : Int) o x y) (hc : c < anN k o x) : okLn (k : Int) (anO o) (anX o x c) (anY o y c) := by
  rcases h with ⟨h, hx, hy⟩ | ⟨h, h1, h2, h3⟩ | ⟨h, h1, h2, h3⟩ | ⟨h, h1, h2, h3, h4⟩ | ⟨h, h1, h2, h3⟩ | ⟨h, h1, h2, h3⟩ | ⟨h, h1, h2, h3, h4⟩
  · unfold anN at hc
    rw [if_neg (by omega), if_neg (by omega), if_neg (by omega), if_neg (by omega), if_neg (by omega)] at hc
    exact absurd hc (Nat.not_lt_zero c)
  · subst h
    have hc : c < k - 1 := hc
    show okLn (k : Int) 1 (skp x c) y
    unfold skp
    split
    · exact Or.inr (Or.inl ⟨rfl, by omega, by omega, h3⟩)
    · exact Or.inr (Or.inl ⟨rfl, by omega, by omega, h3⟩)
  · unfold anN at hc
    rw [if_neg (by omega), if_neg (by omega), if_neg (by omega), if_neg (by omega), if_neg (by omega)] at hc
    exact absurd hc (Nat.not_lt_zero c)
  · subst h
    have hc : c < k := hc
    show okLn (k : Int) 4 (if c = 0 then x else skp x (c - 1)) (if c = 0 then 1 - y else y)
    by_cases q : c = 0
    · rw [if_pos q, if_pos q]
      exact Or.inr (Or.inr (Or.inr (Or.inl ⟨rfl, h1, h2, by omega, by omega⟩)))
    · rw [if_neg q, if_neg q]
      unfold skp
      split
      · exact Or.inr (Or.inr (Or.inr (Or.inl ⟨rfl, by omega, by omega, h3, h4⟩)))
      · exact Or.inr (Or.inr (Or.inr (Or.inl ⟨rfl, by omega, by omega, h3, h4⟩)))
  · subst h
    show okLn (k : Int) 6 (x / 1440) y
    exact Or.inr (Or.inr (Or.inr (Or.inr (Or.inr (Or.inl ⟨rfl, by omega, by omega, h3⟩)))))
  · subst h
    have hc : c < (if -6 ≤ x ∧ x ≤ 6 then 1 else 0) := hc
    show okLn (k : Int) 5 (1440 * x) y
    by_cases q : -6 ≤ x ∧ x ≤ 6
    · exact Or.inr (Or.inr (Or.inr (Or.inr (Or.inl ⟨rfl, by omega, by omega, h3⟩))))
    · rw [if_neg q] at hc; exact absurd hc (Nat.not_lt_zero c)
  · subst h
    have hc : c < 2 := hc
    show okLn (k : Int) 7 x (skp y c)
    unfold skp
    split
    · exact Or.inr (Or.inr (Or.inr (Or.inr (Or.inr (Or.inr ⟨rfl, h1, h2, by omega, by omega⟩)))))
    · exact Or.inr (Or.inr (Or.inr (Or.inr (Or.inr (Or.inr ⟨rfl, h1, h2, by omega, by omega⟩)))))
theorem an_5 {k : Nat} {o x : Int} (hk : k ≤ 5) : anN k o x ≤ 5 := by
  unfold anN
  repeat' split
  all_goals omega
theorem ofI {v : Int} (h1 : -2147483648 ≤ v) (h2 : v ≤ 2147483647) : (Int32.ofInt v).toInt = v := Int32.toInt_ofInt_of_le (by omega) (by omega)
theorem okLn_b {k : Nat} {o x y : Int} (hk : k ≤ 5) (h : okLn (k : Int) o x y) : (0 ≤ o ∧ o ≤ 11) ∧ (-9999 ≤ x ∧ x ≤ 9999) ∧ 0 ≤ y ∧ y ≤ 2 := by
  rcases h with h | h | h | h | h | h | h <;> omega
/-- line l by its change c -/
def edO (fo : Nat → Int32) (l : Nat) : Nat → Int32 := upd fo l (Int32.ofInt (anO (fo l).toInt))
def edX (fo fx : Nat → Int32) (l c : Nat) : Nat → Int32 := upd fx l (Int32.ofInt (anX (fo l).toInt (fx l).toInt c))
def edY (fo fy : Nat → Int32) (l c : Nat) : Nat → Int32 := upd fy l (Int32.ofInt (anY (fo l).toInt (fy l).toInt c))
def okLs (k N : Nat) (fo fx fy : Nat → Int32) : Prop := ∀ j, j < N → okLn (k : Int) (fo j).toInt (fx j).toInt (fy j).toInt
theorem ed_ok {k N l c : Nat} {fo fx fy : Nat → Int32} (hk : k ≤ 5) (h : okLs k N fo fx fy) (hl : l < N) (hc : c < anN k (fo l).toInt (fx l).toInt) : okLs k N (edO fo l) (edX fo fx l c) (edY fo fy l c) := by
  intro j hj
  unfold edO edX edY
  by_cases q : j = l
  · subst q
    have h1 := an_ok (h j hj) hc
    have h2 := okLn_b hk h1
    rw [upd_same, upd_same, upd_same, ofI (by omega) (by omega), ofI (by omega) (by omega), ofI (by omega) (by omega)]
    exact h1
  · rw [upd_ne q, upd_ne q, upd_ne q]; exact h j hj
/-- a program is right -/
def RTp (k : Nat) (ic md : Nat → Int32) (TT : Nat → TST) (Y a b law v : Int) (N : Nat) (fo fx fy : Nat → Int32) : Prop := MIS fo N = -1 ∧ ∀ m, isOd k TT Y a b m → KPt ic md TT fo fx fy N law v m
theorem RT_cg {k : Nat} {ic md : Nat → Int32} {TT : Nat → TST} {Y a b law v : Int} {N : Nat} {fo fx fy go gx gy : Nat → Int32} (h : ∀ j, j < N → fo j = go j ∧ fx j = gx j ∧ fy j = gy j) : RTp k ic md TT Y a b law v N fo fx fy ↔ RTp k ic md TT Y a b law v N go gx gy := by
  unfold RTp
  rw [MIS_congr (fun j hj => (h j hj).1)]
  constructor
  · rintro ⟨h1, h2⟩; exact ⟨h1, fun m hm => (KPt_cg h).mp (h2 m hm)⟩
  · rintro ⟨h1, h2⟩; exact ⟨h1, fun m hm => (KPt_cg h).mpr (h2 m hm)⟩
theorem RT_list {k : Nat} {ic md : Nat → Int32} {TT : Nat → TST} {Y a b law v : Int} {N n0 : Nat} {fo fx fy : Nat → Int32} {f : Nat → Int} (he : isEn (isOd k TT Y a b) n0 f) : RTp k ic md TT Y a b law v N fo fx fy ↔ (MIS fo N = -1 ∧ ∀ q, q < n0 → KPt ic md TT fo fx fy N law v (f q)) := by
  constructor
  · rintro ⟨h1, h2⟩; exact ⟨h1, fun q hq => h2 _ (he.2.1 q hq)⟩
  · rintro ⟨h1, h2⟩; exact ⟨h1, fun m hm => by obtain ⟨i, hi, e⟩ := he.2.2 m hm; rw [← e]; exact h2 i hi⟩
def MD1 (k : Nat) (R : (Nat → Int32) → (Nat → Int32) → (Nat → Int32) → Prop) (N : Nat) (fo fx fy : Nat → Int32) : Prop := ∃ l c, l < N ∧ c < anN k (fo l).toInt (fx l).toInt ∧ R (edO fo l) (edX fo fx l c) (edY fo fy l c)
def MD2 (k : Nat) (R : (Nat → Int32) → (Nat → Int32) → (Nat → Int32) → Prop) (N : Nat) (fo fx fy : Nat → Int32) : Prop := ∃ l c m d, l < m ∧ m < N ∧ c < anN k (fo l).toInt (fx l).toInt ∧ d < anN k (fo m).toInt (fx m).toInt ∧ R (edO (edO fo l) m) (edX (edO fo l) (edX fo fx l c) m d) (edY (edO fo l) (edY fo fy l c) m d)
def MDr (R0 R1 R2 : Prop) (no r : Int) : Prop := (R0 ∧ r = 0) ∨ (¬ R0 ∧ R1 ∧ r = 1) ∨ (¬ R0 ∧ ¬ R1 ∧ R2 ∧ r = 2) ∨ (¬ R0 ∧ ¬ R1 ∧ ¬ R2 ∧ r = no)
theorem MDr_one {R0 R1 R2 : Prop} {no r s : Int} (h1 : MDr R0 R1 R2 no r) (h2 : MDr R0 R1 R2 no s) : r = s := by
  rcases h1 with ⟨a, b⟩ | ⟨a, b, c⟩ | ⟨a, b, c, d⟩ | ⟨a, b, c, d⟩ <;> rcases h2 with ⟨e, f⟩ | ⟨e, f, g⟩ | ⟨e, f, g, h⟩ | ⟨e, f, g, h⟩ <;> first | omega | (exact absurd a e) | (exact absurd e a) | (exact absurd b f) | (exact absurd f b) | (exact absurd c g) | (exact absurd g c)
def MNq (k : Nat) (ic md : Nat → Int32) (TT : Nat → TST) (Y : Int) (fl gop gx gy : Nat → Int32) (p law v a n r : Int) : Prop := (¬ okLE k p law v a n 100000 ∧ r = -1) ∨ (okLE k p law v a n 100000 ∧ MDr (RTp k ic md TT Y a (a + n) law v (fl p.toNat).toInt.toNat (fP gop p.toNat) (fP gx p.toNat) (fP gy p.toNat)) (MD1 k (RTp k ic md TT Y a (a + n) law v (fl p.toNat).toInt.toNat) (fl p.toNat).toInt.toNat (fP gop p.toNat) (fP gx p.toNat) (fP gy p.toNat)) (MD2 k (RTp k ic md TT Y a (a + n) law v (fl p.toNat).toInt.toNat) (fl p.toNat).toInt.toNat (fP gop p.toNat) (fP gx p.toNat) (fP gy p.toNat)) (-6) r)
theorem MNq_one {k : Nat} {ic md : Nat → Int32} {TT : Nat → TST} {Y : Int} {fl gop gx gy : Nat → Int32} {p law v a n r s : Int} (h1 : MNq k ic md TT Y fl gop gx gy p law v a n r) (h2 : MNq k ic md TT Y fl gop gx gy p law v a n s) : r = s := by
  rcases h1 with ⟨a1, b1⟩ | ⟨a1, b1⟩
  · rcases h2 with ⟨a2, b2⟩ | ⟨a2, b2⟩
    · rw [b1, b2]
    · exact absurd a2 a1
  · rcases h2 with ⟨a2, b2⟩ | ⟨a2, b2⟩
    · exact absurd a1 a2
    · exact MDr_one b1 b2
/-! ===== all changes in a row ===== -/
def bsN (k : Nat) (fo fx : Nat → Int32) : Nat → Nat
  | 0 => 0
  | l + 1 => bsN k fo fx l + anN k (fo l).toInt (fx l).toInt
theorem bs_le {k : Nat} {fo fx : Nat → Int32} : ∀ d l, bsN k fo fx l ≤ bsN k fo fx (l + d) := by
  intro d
  induction d with
  | zero => intro l; exact Nat.le_refl _
  | succ d ih => intro l; exact Nat.le_trans (ih l) (Nat.le_add_right _ _)
theorem bs_mono {k : Nat} {fo fx : Nat → Int32} {l m : Nat} (h : l ≤ m) : bsN k fo fx l ≤ bsN k fo fx m := by
  have := bs_le (k := k) (fo := fo) (fx := fx) (m - l) l
  rw [show l + (m - l) = m by omega] at this
  exact this
theorem bs_50 {k : Nat} {fo fx : Nat → Int32} (hk : k ≤ 5) : ∀ l, bsN k fo fx l ≤ 5 * l := by
  intro l
  induction l with
  | zero => exact Nat.le_refl _
  | succ l ih => have := an_5 (o := (fo l).toInt) (x := (fx l).toInt) hk; show bsN k fo fx l + anN k (fo l).toInt (fx l).toInt ≤ _; omega
theorem bs_sur {k : Nat} {fo fx : Nat → Int32} : ∀ N e, e < bsN k fo fx N → ∃ l c, l < N ∧ c < anN k (fo l).toInt (fx l).toInt ∧ e = bsN k fo fx l + c := by
  intro N
  induction N with
  | zero => intro e h; exact absurd h (Nat.not_lt_zero e)
  | succ N ih =>
    intro e h
    have h2 : e < bsN k fo fx N + anN k (fo N).toInt (fx N).toInt := h
    by_cases q : e < bsN k fo fx N
    · obtain ⟨l, c, h3, h4, h5⟩ := ih e q
      exact ⟨l, c, by omega, h4, h5⟩
    · exact ⟨N, e - bsN k fo fx N, by omega, by omega, by omega⟩
theorem bs_ord {k : Nat} {fo fx : Nat → Int32} {l c m d : Nat} (hd : d < anN k (fo m).toInt (fx m).toInt) (h : bsN k fo fx l + c < bsN k fo fx m + d) : l ≤ m := by
  apply Nat.le_of_not_lt
  intro q
  have h1 := bs_mono (k := k) (fo := fo) (fx := fx) (show m + 1 ≤ l by omega)
  have h2 : bsN k fo fx (m + 1) = bsN k fo fx m + anN k (fo m).toInt (fx m).toInt := rfl
  omega
theorem bs_lt {k : Nat} {fo fx : Nat → Int32} {l c m d : Nat} (hc : c < anN k (fo l).toInt (fx l).toInt) (h : l < m) : bsN k fo fx l + c < bsN k fo fx m + d := by
  have h1 := bs_mono (k := k) (fo := fo) (fx := fx) (show l + 1 ≤ m by omega)
  have h2 : bsN k fo fx (l + 1) = bsN k fo fx l + anN k (fo l).toInt (fx l).toInt := rfl
  omega
theorem bs_in {k : Nat} {fo fx : Nat → Int32} {l c N : Nat} (hc : c < anN k (fo l).toInt (fx l).toInt) (h : l < N) : bsN k fo fx l + c < bsN k fo fx N := bs_lt (d := 0) hc h
theorem bs_inj {k : Nat} {fo fx : Nat → Int32} {l c m d : Nat} (hc : c < anN k (fo l).toInt (fx l).toInt) (hd : d < anN k (fo m).toInt (fx m).toInt) (h : bsN k fo fx l + c = bsN k fo fx m + d) : l = m ∧ c = d := by
  rcases Nat.lt_trichotomy l m with q | q | q
  · have := bs_lt (d := d) hc q; omega
  · subst q; exact ⟨rfl, by omega⟩
  · have := bs_lt (d := c) hd q; omega
/-- a change taken back -/
theorem ed_back {fo fx fy : Nat → Int32} {l c : Nat} (j : Nat) : upd (edO fo l) l (fo l) j = fo j ∧ upd (edX fo fx l c) l (fx l) j = fx j ∧ upd (edY fo fy l c) l (fy l) j = fy j := by
  unfold edO edX edY
  by_cases q : j = l
  · subst q; rw [upd_same, upd_same, upd_same]; exact ⟨rfl, rfl, rfl⟩
  · rw [upd_ne q, upd_ne q, upd_ne q, upd_ne q, upd_ne q, upd_ne q]; exact ⟨rfl, rfl, rfl⟩
/-- two changes -/
theorem ed_2 {fo fx fy : Nat → Int32} {l c m d : Nat} (h : m ≠ l) : edO (edO fo l) m = upd (edO fo l) m (Int32.ofInt (anO (fo m).toInt)) ∧ edX (edO fo l) (edX fo fx l c) m d = upd (edX fo fx l c) m (Int32.ofInt (anX (fo m).toInt (fx m).toInt d)) ∧ edY (edO fo l) (edY fo fy l c) m d = upd (edY fo fy l c) m (Int32.ofInt (anY (fo m).toInt (fy m).toInt d)) := by
  have e1 : edO fo l m = fo m := upd_ne h
  have e2 : edX fo fx l c m = fx m := upd_ne h
  have e3 : edY fo fy l c m = fy m := upd_ne h
  refine ⟨?_, ?_, ?_⟩
  · show upd (edO fo l) m (Int32.ofInt (anO (edO fo l m).toInt)) = _; rw [e1]
  · show upd (edX fo fx l c) m (Int32.ofInt (anX (edO fo l m).toInt (edX fo fx l c m).toInt d)) = _; rw [e1, e2]
  · show upd (edY fo fy l c) m (Int32.ofInt (anY (edO fo l m).toInt (edY fo fy l c m).toInt d)) = _; rw [e1, e3]
theorem ed_back2 {fo fx fy : Nat → Int32} {l c m : Nat} {a b e : Int32} (h : m ≠ l) (j : Nat) : upd (upd (edO fo l) m a) m (fo m) j = edO fo l j ∧ upd (upd (edX fo fx l c) m b) m (fx m) j = edX fo fx l c j ∧ upd (upd (edY fo fy l c) m e) m (fy m) j = edY fo fy l c j := by
  by_cases q : j = m
  · subst q; rw [upd_same, upd_same, upd_same]; exact ⟨(upd_ne h).symm, (upd_ne h).symm, (upd_ne h).symm⟩
  · rw [upd_ne q, upd_ne q, upd_ne q, upd_ne q, upd_ne q, upd_ne q]; exact ⟨rfl, rfl, rfl⟩
