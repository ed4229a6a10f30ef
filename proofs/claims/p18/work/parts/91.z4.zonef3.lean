theorem ins_len {w v : Int} : ∀ L : List (Int × Int), (insL w v L).length ≤ L.length + 1 := by
  intro L
  induction L with
  | nil => exact Nat.le_refl _
  | cons p L ih =>
    unfold insL
    split
    · exact Nat.le_refl _
    · split
      · exact Nat.le_succ _
      · simp only [List.length_cons]; omega
theorem yl_len {W : Nat → Nat → Int} {B : Nat → Int} {y : Nat} : ∀ r, (ylL W B y r).length ≤ r := by
  intro r
  induction r with
  | zero => exact Nat.le_refl _
  | succ r ih =>
    unfold ylL
    split
    · omega
    · have := ins_len (w := W r y) (v := B r) (ylL W B y r); omega
theorem al_len {W : Nat → Nat → Int} {B : Nat → Int} {m : Nat} : ∀ y, (alL W B m y).length ≤ m * y := by
  intro y
  induction y with
  | zero => exact Nat.le_refl _
  | succ y ih =>
    show (alL W B m y ++ ylL W B y m).length ≤ m * (y + 1)
    rw [List.length_append, Nat.mul_succ]
    have := yl_len (W := W) (B := B) (y := y) m
    omega
/-- bounds of what rules say -/
def WBp (W : Nat → Nat → Int) (B : Nat → Int) (m : Nat) (D : Int) : Prop := (∀ r y, r < m → y < 100 → W r y = -1 ∨ (0 ≤ W r y ∧ W r y ≤ D)) ∧ ∀ r, r < m → -720 ≤ B r ∧ B r ≤ 720
theorem yl_bd {W : Nat → Nat → Int} {B : Nat → Int} {m : Nat} {D : Int} (h : WBp W B m D) {y : Nat} (hy : y < 100) : ∀ r, r ≤ m → ∀ p ∈ ylL W B y r, (0 ≤ p.1 ∧ p.1 ≤ D) ∧ -720 ≤ p.2 ∧ p.2 ≤ 720 := by
  intro r
  induction r with
  | zero => intro _ p hp; cases hp
  | succ r ih =>
    intro hr p hp
    unfold ylL at hp
    by_cases c : W r y = -1
    · rw [if_pos c] at hp; exact ih (by omega) p hp
    · rw [if_neg c] at hp
      rcases mem_ins _ hp with e | e
      · rw [e]
        rcases h.1 r y (by omega) hy with f | f
        · exact absurd f c
        · exact ⟨f, h.2 r (by omega)⟩
      · exact ih (by omega) p e
theorem al_bd {W : Nat → Nat → Int} {B : Nat → Int} {m : Nat} {D : Int} (h : WBp W B m D) : ∀ y, y ≤ 100 → ∀ p ∈ alL W B m y, (0 ≤ p.1 ∧ p.1 ≤ D) ∧ -720 ≤ p.2 ∧ p.2 ≤ 720 := by
  intro y
  induction y with
  | zero => intro _ p hp; cases hp
  | succ y ih =>
    intro hy p hp
    rcases List.mem_append.mp hp with e | e
    · exact ih (by omega) p e
    · exact yl_bd h (by omega) m (Nat.le_refl m) p e
theorem ZR_0 {ss os : Nat → Int32} {c v0 : Int} (hc : c = 0) (h : (ss 0).toInt = 0) (hv : (os 0).toInt = v0) : ZR c ss os (TKl v0 []) := by
  refine ⟨by rw [hc]; rfl, fun i hi => ?_⟩
  have hi : i ≤ 0 := hi
  rw [Nat.le_zero.mp hi]
  exact ⟨h, hv⟩
/-- what stands when the years below y and the first i of year y are taken -/
def PT1 (W : Nat → Nat → Int) (B : Nat → Int) (m y i : Nat) : List (Int × Int) := alL W B m y ++ (ylL W B y m).take i
theorem PT1_0 {W : Nat → Nat → Int} {B : Nat → Int} {m y : Nat} : PT1 W B m y 0 = alL W B m y := by
  unfold PT1; rw [List.take_zero, List.append_nil]
theorem PT1_s {W : Nat → Nat → Int} {B : Nat → Int} {m y i : Nat} {p : Int × Int} (h : (ylL W B y m)[i]? = some p) : PT1 W B m y (i + 1) = PT1 W B m y i ++ [p] := by
  unfold PT1
  rw [List.take_add_one, h, List.append_assoc]
  rfl
theorem PT1_e {W : Nat → Nat → Int} {B : Nat → Int} {m y i : Nat} (h : (ylL W B y m).length ≤ i) : PT1 W B m y i = alL W B m (y + 1) := by
  unfold PT1; rw [List.take_of_length_le h]; rfl
theorem PT1_ok {W : Nat → Nat → Int} {B : Nat → Int} {m y i : Nat} {D v0 : Int} (h : WBp W B m D) (hD : 0 ≤ D) (hv : -720 ≤ v0 ∧ v0 ≤ 720) (hy : y < 100) : okT D (TKl v0 (PT1 W B m y i)) ∧ (TKl v0 (PT1 W B m y i)).1 ≤ m * y + i := by
  have h1 := TK_ok hv hD (PT1 W B m y i) (fun p hp => by
    rcases List.mem_append.mp hp with e | e
    · have := al_bd h y (by omega) p e; exact ⟨this.1.2, this.2⟩
    · have := yl_bd h hy m (Nat.le_refl m) p (List.mem_of_mem_take e); exact ⟨this.1.2, this.2⟩)
  refine ⟨h1.1, ?_⟩
  have h2 := h1.2
  have h3 : (PT1 W B m y i).length ≤ m * y + i := by
    unfold PT1
    rw [List.length_append]
    have a := al_len (W := W) (B := B) (m := m) y
    have b := List.length_take_le i (ylL W B y m)
    omega
  omega
def mn60 (a : Int) : Int := if a < 60000000 then a else 60000000
theorem mn60_of {x a : Int} (h1 : x ≤ a) (h2 : x ≤ 60000000) (h3 : x = a ∨ x = 60000000) : x = mn60 a := by
  unfold mn60; split <;> omega
/-- the ends of the stretches -/
def ENp (c : Int) (ss se : Nat → Int32) : Prop := ∀ i : Nat, (i : Int) ≤ c → (se i).toInt = if (i : Int) < c then mn60 (ss (i + 1)).toInt else 60000000
def cntT (to : Nat → Int32) (kn : Int) : Nat → Nat
  | 0 => 0
  | r + 1 => if (to r).toInt ≤ kn then cntT to kn r + 1 else cntT to kn r
theorem cnt_le {to : Nat → Int32} {kn : Int} : ∀ r, cntT to kn r ≤ r := by
  intro r
  induction r with
  | zero => exact Nat.le_refl _
  | succ r ih => unfold cntT; split <;> omega
