/-! ===== changes of lines, as the reference makes them ===== -/
theorem upd_self {f : Nat → Int32} {l : Nat} : upd f l (f l) = f := by
  funext j
  by_cases q : j = l
  · rw [q, upd_same]
  · rw [upd_ne q]
theorem edO_of {fo : Nat → Int32} {l : Nat} {x : Int32} (h : x.toInt = anO (fo l).toInt) : upd fo l x = edO fo l := by
  unfold edO
  rw [← h, Int32.ofInt_toInt]
theorem edX_of {fo fx : Nat → Int32} {l c : Nat} {x : Int32} (h : x.toInt = anX (fo l).toInt (fx l).toInt c) : upd fx l x = edX fo fx l c := by
  unfold edX
  rw [← h, Int32.ofInt_toInt]
theorem edY_of {fo fy : Nat → Int32} {l c : Nat} {x : Int32} (h : x.toInt = anY (fo l).toInt (fy l).toInt c) : upd fy l x = edY fo fy l c := by
  unfold edY
  rw [← h, Int32.ofInt_toInt]
theorem edO_id {fo : Nat → Int32} {l : Nat} (h : (fo l).toInt = anO (fo l).toInt) : fo = edO fo l := upd_self.symm.trans (edO_of h)
theorem edX_id {fo fx : Nat → Int32} {l c : Nat} (h : (fx l).toInt = anX (fo l).toInt (fx l).toInt c) : fx = edX fo fx l c := upd_self.symm.trans (edX_of h)
theorem edY_id {fo fy : Nat → Int32} {l c : Nat} (h : (fy l).toInt = anY (fo l).toInt (fy l).toInt c) : fy = edY fo fy l c := upd_self.symm.trans (edY_of h)
theorem ed_cg {fo fx fy go gx gy : Nat → Int32} {N l c : Nat} (h : ∀ j, j < N → fo j = go j ∧ fx j = gx j ∧ fy j = gy j) (hl : l < N) : ∀ j, j < N → edO fo l j = edO go l j ∧ edX fo fx l c j = edX go gx l c j ∧ edY fo fy l c j = edY go gy l c j := by
  intro j hj
  unfold edO edX edY
  obtain ⟨a1, a2, a3⟩ := h l hl
  by_cases q : j = l
  · subst q; rw [upd_same, upd_same, upd_same, upd_same, upd_same, upd_same, a1, a2, a3]; exact ⟨rfl, rfl, rfl⟩
  · rw [upd_ne q, upd_ne q, upd_ne q, upd_ne q, upd_ne q, upd_ne q]; exact h j hj
theorem okLs_cg {k N : Nat} {fo fx fy go gx gy : Nat → Int32} (h : ∀ j, j < N → fo j = go j ∧ fx j = gx j ∧ fy j = gy j) (hok : okLs k N go gx gy) : okLs k N fo fx fy := fun j hj => by
  obtain ⟨a1, a2, a3⟩ := h j hj
  rw [a1, a2, a3]
  exact hok j hj
theorem skp_cz {own : Int} {z c : Nat} (hz : (z : Int) ≠ own) (h0 : 0 ≤ own) (hc : czN own z = c) : (z : Int) = skp own c := by
  rw [← hc, cz_skp hz h0]
/-- the rows of the reference, changed or not -/
def CLp (G : Gl) (k ln c : Nat) (fo fx fy : Nat → Int32) (E1 : Nat → va_E) (r : Int32) : Prop := (r = 1 ∧ c < anN k (fo ln).toInt (fx ln).toInt ∧ E1 89 = aI G 10 (edO fo ln) ∧ E1 90 = aI G 10 (edX fo fx ln c) ∧ E1 91 = aI G 10 (edY fo fy ln c)) ∨ (r = 0 ∧ ¬ c < anN k (fo ln).toInt (fx ln).toInt ∧ E1 89 = aI G 10 fo ∧ E1 90 = aI G 10 fx ∧ E1 91 = aI G 10 fy)
