/-! ===== what the kinds of a program's lines come to ===== -/
def FTs (op h : Int) (K : Nat → Int32) : Option (Int × (Nat → Int32)) :=
  if op = 0 then (if h < 8 then some (h + 1, upd K h.toNat 0) else none)
  else if op = 1 then (if 1 ≤ h ∧ (K (h - 1).toNat).toInt = 0 then some (h, upd K (h - 1).toNat 1) else none)
  else if op = 2 then (if 1 ≤ h ∧ (K (h - 1).toNat).toInt = 1 then some (h, upd K (h - 1).toNat 2) else none)
  else if op = 3 then (if 1 ≤ h ∧ (K (h - 1).toNat).toInt = 2 then some (h, upd K (h - 1).toNat 1) else none)
  else if op = 4 then (if 1 ≤ h ∧ (K (h - 1).toNat).toInt = 1 then some (h, upd K (h - 1).toNat 0) else none)
  else if op = 5 then (if 1 ≤ h ∧ ((K (h - 1).toNat).toInt = 0 ∨ (K (h - 1).toNat).toInt = 1) then some (h, K) else none)
  else if op = 6 then (if 1 ≤ h ∧ ((K (h - 1).toNat).toInt = 2 ∨ (K (h - 1).toNat).toInt = 1) then some (h, K) else none)
  else if op = 7 then (if 1 ≤ h ∧ (K (h - 1).toNat).toInt = 2 then some (h, K) else none)
  else if op = 8 then (if 2 ≤ h ∧ (K (h - 1).toNat).toInt = (K (h - 2).toNat).toInt ∧ (K (h - 1).toNat).toInt ≠ 3 then some (h - 1, upd K (h - 2).toNat 3) else none)
  else if op = 9 then (if 2 ≤ h ∧ (K (h - 1).toNat).toInt = 3 ∧ ((K (h - 2).toNat).toInt = 0 ∨ (K (h - 2).toNat).toInt = 1) then some (h - 1, K) else none)
  else if op = 10 then (if 1 ≤ h ∧ h < 8 then some (h + 1, upd K h.toNat (K (h - 1).toNat)) else none)
  else (if 2 ≤ h then some (h, upd (upd K (h - 1).toNat (K (h - 2).toNat)) (h - 2).toNat (K (h - 1).toNat)) else none)
def okK (h : Int) (K : Nat → Int32) : Prop := (0 ≤ h ∧ h ≤ 8) ∧ ∀ j : Nat, (j : Int) < h → 0 ≤ (K j).toInt ∧ (K j).toInt ≤ 3
def simK (h : Int) (K K' : Nat → Int32) : Prop := ∀ j : Nat, (j : Int) < h → K j = K' j
theorem upd_same {f : Nat → Int32} {k : Nat} {v : Int32} : upd f k v k = v := by simp [upd]
theorem upd_ne {f : Nat → Int32} {k j : Nat} {v : Int32} (h : j ≠ k) : upd f k v j = f j := by simp [upd, h]
theorem simK_up {h h' : Int} {K K' : Nat → Int32} {k : Nat} {v v' : Int32} (hs : simK h K K') (hv : v = v') (hk : ∀ j : Nat, (j : Int) < h' → j ≠ k → (j : Int) < h) : simK h' (upd K k v) (upd K' k v') := by
  intro j hj
  by_cases q : j = k
  · rw [q, upd_same, upd_same, hv]
  · rw [upd_ne q, upd_ne q, hs j (hk j hj q)]
theorem okK_up {h h' : Int} {K : Nat → Int32} {k : Nat} {v : Int32} (ho : okK h K) (hh : 0 ≤ h' ∧ h' ≤ 8) (hv : 0 ≤ v.toInt ∧ v.toInt ≤ 3) (hk : ∀ j : Nat, (j : Int) < h' → j ≠ k → (j : Int) < h) : okK h' (upd K k v) := by
  refine ⟨hh, fun j hj => ?_⟩
  by_cases q : j = k
  · rw [q, upd_same]; exact hv
  · rw [upd_ne q]; exact ho.2 j (hk j hj q)
theorem FTs_sim {op h : Int} {K K' : Nat → Int32} (hs : simK h K K') : (FTs op h K = none ∧ FTs op h K' = none) ∨ ∃ (h1 : Int) (K1 K2 : Nat → Int32), FTs op h K = some (h1, K1) ∧ FTs op h K' = some (h1, K2) ∧ simK h1 K1 K2 := by
  have e1 : 1 ≤ h → K (h - 1).toNat = K' (h - 1).toNat := fun q => hs _ (by omega)
  have e2 : 2 ≤ h → K (h - 2).toNat = K' (h - 2).toNat := fun q => hs _ (by omega)
  unfold FTs
  by_cases c0 : op = 0
  · rw [if_pos c0, if_pos c0]
    by_cases g : h < 8
    · rw [if_pos g, if_pos g]; exact Or.inr ⟨_, _, _, rfl, rfl, simK_up hs rfl (fun j hj q => by omega)⟩
    · rw [if_neg g, if_neg g]; exact Or.inl ⟨rfl, rfl⟩
  rw [if_neg c0, if_neg c0]
  by_cases h1 : 1 ≤ h
  · rw [← e1 h1]
    by_cases c : op = 1
    · rw [if_pos c, if_pos c]
      by_cases g : 1 ≤ h ∧ (K (h - 1).toNat).toInt = 0
      · rw [if_pos g, if_pos g]; exact Or.inr ⟨_, _, _, rfl, rfl, simK_up hs rfl (fun j hj _ => hj)⟩
      · rw [if_neg g, if_neg g]; exact Or.inl ⟨rfl, rfl⟩
    rw [if_neg c, if_neg c]; clear c
    by_cases c : op = 2
    · rw [if_pos c, if_pos c]
      by_cases g : 1 ≤ h ∧ (K (h - 1).toNat).toInt = 1
      · rw [if_pos g, if_pos g]; exact Or.inr ⟨_, _, _, rfl, rfl, simK_up hs rfl (fun j hj _ => hj)⟩
      · rw [if_neg g, if_neg g]; exact Or.inl ⟨rfl, rfl⟩
    rw [if_neg c, if_neg c]; clear c
    by_cases c : op = 3
    · rw [if_pos c, if_pos c]
      by_cases g : 1 ≤ h ∧ (K (h - 1).toNat).toInt = 2
      · rw [if_pos g, if_pos g]; exact Or.inr ⟨_, _, _, rfl, rfl, simK_up hs rfl (fun j hj _ => hj)⟩
      · rw [if_neg g, if_neg g]; exact Or.inl ⟨rfl, rfl⟩
    rw [if_neg c, if_neg c]; clear c
    by_cases c : op = 4
    · rw [if_pos c, if_pos c]
      by_cases g : 1 ≤ h ∧ (K (h - 1).toNat).toInt = 1
      · rw [if_pos g, if_pos g]; exact Or.inr ⟨_, _, _, rfl, rfl, simK_up hs rfl (fun j hj _ => hj)⟩
      · rw [if_neg g, if_neg g]; exact Or.inl ⟨rfl, rfl⟩
    rw [if_neg c, if_neg c]; clear c
    by_cases c : op = 5
    · rw [if_pos c, if_pos c]
      by_cases g : 1 ≤ h ∧ ((K (h - 1).toNat).toInt = 0 ∨ (K (h - 1).toNat).toInt = 1)
      · rw [if_pos g, if_pos g]; exact Or.inr ⟨_, _, _, rfl, rfl, hs⟩
      · rw [if_neg g, if_neg g]; exact Or.inl ⟨rfl, rfl⟩
    rw [if_neg c, if_neg c]; clear c
    by_cases c : op = 6
    · rw [if_pos c, if_pos c]
      by_cases g : 1 ≤ h ∧ ((K (h - 1).toNat).toInt = 2 ∨ (K (h - 1).toNat).toInt = 1)
      · rw [if_pos g, if_pos g]; exact Or.inr ⟨_, _, _, rfl, rfl, hs⟩
      · rw [if_neg g, if_neg g]; exact Or.inl ⟨rfl, rfl⟩
    rw [if_neg c, if_neg c]; clear c
    by_cases c : op = 7
    · rw [if_pos c, if_pos c]
      by_cases g : 1 ≤ h ∧ (K (h - 1).toNat).toInt = 2
      · rw [if_pos g, if_pos g]; exact Or.inr ⟨_, _, _, rfl, rfl, hs⟩
      · rw [if_neg g, if_neg g]; exact Or.inl ⟨rfl, rfl⟩
    rw [if_neg c, if_neg c]; clear c
    by_cases h2 : 2 ≤ h
    · rw [← e2 h2]
      by_cases c : op = 8
      · rw [if_pos c, if_pos c]
        by_cases g : 2 ≤ h ∧ (K (h - 1).toNat).toInt = (K (h - 2).toNat).toInt ∧ (K (h - 1).toNat).toInt ≠ 3
        · rw [if_pos g, if_pos g]; exact Or.inr ⟨_, _, _, rfl, rfl, simK_up hs rfl (fun j hj _ => by omega)⟩
        · rw [if_neg g, if_neg g]; exact Or.inl ⟨rfl, rfl⟩
      rw [if_neg c, if_neg c]; clear c
      by_cases c : op = 9
      · rw [if_pos c, if_pos c]
        by_cases g : 2 ≤ h ∧ (K (h - 1).toNat).toInt = 3 ∧ ((K (h - 2).toNat).toInt = 0 ∨ (K (h - 2).toNat).toInt = 1)
        · rw [if_pos g, if_pos g]; exact Or.inr ⟨_, _, _, rfl, rfl, fun j hj => hs j (by omega)⟩
        · rw [if_neg g, if_neg g]; exact Or.inl ⟨rfl, rfl⟩
      rw [if_neg c, if_neg c]; clear c
      by_cases c : op = 10
      · rw [if_pos c, if_pos c]
        by_cases g : 1 ≤ h ∧ h < 8
        · rw [if_pos g, if_pos g]; exact Or.inr ⟨_, _, _, rfl, rfl, simK_up hs rfl (fun j hj q => by omega)⟩
        · rw [if_neg g, if_neg g]; exact Or.inl ⟨rfl, rfl⟩
      rw [if_neg c, if_neg c]; clear c
      rw [if_pos h2, if_pos h2]
      exact Or.inr ⟨_, _, _, rfl, rfl, simK_up (h := h) (simK_up hs rfl (fun j hj _ => hj)) rfl (fun j hj _ => hj)⟩
    · by_cases c : op = 8
      · rw [if_pos c, if_pos c, if_neg (fun g => h2 g.1), if_neg (fun g => h2 g.1)]; exact Or.inl ⟨rfl, rfl⟩
      rw [if_neg c, if_neg c]; clear c
      by_cases c : op = 9
      · rw [if_pos c, if_pos c, if_neg (fun g => h2 g.1), if_neg (fun g => h2 g.1)]; exact Or.inl ⟨rfl, rfl⟩
      rw [if_neg c, if_neg c]; clear c
      by_cases c : op = 10
      · rw [if_pos c, if_pos c]
        by_cases g : 1 ≤ h ∧ h < 8
        · rw [if_pos g, if_pos g]; exact Or.inr ⟨_, _, _, rfl, rfl, simK_up hs rfl (fun j hj q => by omega)⟩
        · rw [if_neg g, if_neg g]; exact Or.inl ⟨rfl, rfl⟩
      rw [if_neg c, if_neg c, if_neg h2, if_neg h2]; exact Or.inl ⟨rfl, rfl⟩
  · have n1 : ∀ p : Prop, ¬ (1 ≤ h ∧ p) := fun p g => h1 g.1
    have n2 : ∀ p : Prop, ¬ (2 ≤ h ∧ p) := fun p g => h1 (by omega)
    have n3 : ¬ 2 ≤ h := by omega
    simp only [if_neg (n1 _), if_neg (n2 _), if_neg n3, ite_self]
    exact Or.inl ⟨trivial, trivial⟩
theorem FTs_ok {op h h1 : Int} {K K1 : Nat → Int32} (ho : okK h K) (hf : FTs op h K = some (h1, K1)) : okK h1 K1 := by
  have ho1 := ho.1
  have k1 : 1 ≤ h → 0 ≤ (K (h - 1).toNat).toInt ∧ (K (h - 1).toNat).toInt ≤ 3 := fun q => ho.2 _ (by omega)
  have k2 : 2 ≤ h → 0 ≤ (K (h - 2).toNat).toInt ∧ (K (h - 2).toNat).toInt ≤ 3 := fun q => ho.2 _ (by omega)
  unfold FTs at hf
  by_cases c : op = 0
  · rw [if_pos c] at hf
    by_cases g : h < 8
    · rw [if_pos g] at hf; injection hf with q; injection q with q1 q2; subst q1 q2; exact okK_up ho (by omega) (by decide) (fun j hj q => by omega)
    · rw [if_neg g] at hf; cases hf
  rw [if_neg c] at hf; clear c
  by_cases c : op = 1
  · rw [if_pos c] at hf
    by_cases g : 1 ≤ h ∧ (K (h - 1).toNat).toInt = 0
    · rw [if_pos g] at hf; injection hf with q; injection q with q1 q2; subst q1 q2; exact okK_up ho ho1 (by decide) (fun j hj _ => hj)
    · rw [if_neg g] at hf; cases hf
  rw [if_neg c] at hf; clear c
  by_cases c : op = 2
  · rw [if_pos c] at hf
    by_cases g : 1 ≤ h ∧ (K (h - 1).toNat).toInt = 1
    · rw [if_pos g] at hf; injection hf with q; injection q with q1 q2; subst q1 q2; exact okK_up ho ho1 (by decide) (fun j hj _ => hj)
    · rw [if_neg g] at hf; cases hf
  rw [if_neg c] at hf; clear c
  by_cases c : op = 3
  · rw [if_pos c] at hf
    by_cases g : 1 ≤ h ∧ (K (h - 1).toNat).toInt = 2
    · rw [if_pos g] at hf; injection hf with q; injection q with q1 q2; subst q1 q2; exact okK_up ho ho1 (by decide) (fun j hj _ => hj)
    · rw [if_neg g] at hf; cases hf
  rw [if_neg c] at hf; clear c
  by_cases c : op = 4
  · rw [if_pos c] at hf
    by_cases g : 1 ≤ h ∧ (K (h - 1).toNat).toInt = 1
    · rw [if_pos g] at hf; injection hf with q; injection q with q1 q2; subst q1 q2; exact okK_up ho ho1 (by decide) (fun j hj _ => hj)
    · rw [if_neg g] at hf; cases hf
  rw [if_neg c] at hf; clear c
  by_cases c : op = 5
  · rw [if_pos c] at hf
    by_cases g : 1 ≤ h ∧ ((K (h - 1).toNat).toInt = 0 ∨ (K (h - 1).toNat).toInt = 1)
    · rw [if_pos g] at hf; injection hf with q; injection q with q1 q2; subst q1 q2; exact ho
    · rw [if_neg g] at hf; cases hf
  rw [if_neg c] at hf; clear c
  by_cases c : op = 6
  · rw [if_pos c] at hf
    by_cases g : 1 ≤ h ∧ ((K (h - 1).toNat).toInt = 2 ∨ (K (h - 1).toNat).toInt = 1)
    · rw [if_pos g] at hf; injection hf with q; injection q with q1 q2; subst q1 q2; exact ho
    · rw [if_neg g] at hf; cases hf
  rw [if_neg c] at hf; clear c
  by_cases c : op = 7
  · rw [if_pos c] at hf
    by_cases g : 1 ≤ h ∧ (K (h - 1).toNat).toInt = 2
    · rw [if_pos g] at hf; injection hf with q; injection q with q1 q2; subst q1 q2; exact ho
    · rw [if_neg g] at hf; cases hf
  rw [if_neg c] at hf; clear c
  by_cases c : op = 8
  · rw [if_pos c] at hf
    by_cases g : 2 ≤ h ∧ (K (h - 1).toNat).toInt = (K (h - 2).toNat).toInt ∧ (K (h - 1).toNat).toInt ≠ 3
    · rw [if_pos g] at hf; injection hf with q; injection q with q1 q2; subst q1 q2; exact okK_up ho (by omega) (by decide) (fun j hj _ => by omega)
    · rw [if_neg g] at hf; cases hf
  rw [if_neg c] at hf; clear c
  by_cases c : op = 9
  · rw [if_pos c] at hf
    by_cases g : 2 ≤ h ∧ (K (h - 1).toNat).toInt = 3 ∧ ((K (h - 2).toNat).toInt = 0 ∨ (K (h - 2).toNat).toInt = 1)
    · rw [if_pos g] at hf; injection hf with q; injection q with q1 q2; subst q1 q2; exact ⟨by omega, fun j hj => ho.2 j (by omega)⟩
    · rw [if_neg g] at hf; cases hf
  rw [if_neg c] at hf; clear c
  by_cases c : op = 10
  · rw [if_pos c] at hf
    by_cases g : 1 ≤ h ∧ h < 8
    · rw [if_pos g] at hf; injection hf with q; injection q with q1 q2; subst q1 q2; exact okK_up ho (by omega) (k1 g.1) (fun j hj q => by omega)
    · rw [if_neg g] at hf; cases hf
  rw [if_neg c] at hf; clear c
  by_cases g : 2 ≤ h
  · rw [if_pos g] at hf; injection hf with q; injection q with q1 q2; subst q1 q2; exact okK_up (h := h) (okK_up ho ho1 (k2 g) (fun j hj _ => hj)) ho1 (k1 (by omega)) (fun j hj _ => hj)
  · rw [if_neg g] at hf; cases hf
/-- heights alone -/
theorem FTs_h {op h h1 : Int} {K K1 : Nat → Int32} (hop : 0 ≤ op ∧ op ≤ 11) (hh : 0 ≤ h) (hf : FTs op h K = some (h1, K1)) : ned op ≤ h ∧ h1 = h + dlt op := by
  unfold FTs at hf
  rcases (show op = 0 ∨ op = 1 ∨ op = 2 ∨ op = 3 ∨ op = 4 ∨ op = 5 ∨ op = 6 ∨ op = 7 ∨ op = 8 ∨ op = 9 ∨ op = 10 ∨ op = 11 by omega) with rfl | rfl | rfl | rfl | rfl | rfl | rfl | rfl | rfl | rfl | rfl | rfl
  all_goals
    simp only [if_true, if_false, reduceIte, Int.reduceEq] at hf
    split at hf
    · rename_i g
      injection hf with q; injection q with q1 q2; subst q1
      simp only [ned, dlt, if_true, if_false, reduceIte, Int.reduceEq, Int.reduceLE, or_true, true_or, or_false, false_or, and_self, and_true, true_and]
      omega
    · cases hf
def RSf (ops : Nat → Int32) : Nat → Option (Int × (Nat → Int32))
  | 0 => some (0, fun _ => 0)
  | k + 1 => match RSf ops k with
    | none => none
    | some s => FTs (ops k).toInt s.1 s.2
def FF (ops : Nat → Int32) : Nat → Int
  | 0 => 0
  | k + 1 => match RSf ops k with
    | none => FF ops k
    | some _ => (k : Int)
def MIS (ops : Nat → Int32) (n : Nat) : Int := match RSf ops n with
  | none => FF ops n
  | some s => if s.1 = 1 then -1 else (n : Int)
def MXf (ops : Nat → Int32) (n : Nat) : Int := if MIS ops n = -1 then -6 else MIS ops n
def KDr (ops : Nat → Int32) (n : Nat) : Int := match RSf ops n with
  | none => -4
  | some s => if s.1 = 1 then (s.2 0).toInt else -4
theorem RS_s {ops : Nat → Int32} {k : Nat} {s : Int × (Nat → Int32)} (h : RSf ops k = some s) : RSf ops (k + 1) = FTs (ops k).toInt s.1 s.2 := by
  show (match RSf ops k with | none => none | some s => FTs (ops k).toInt s.1 s.2) = _
  rw [h]
theorem RS_n {ops : Nat → Int32} {k : Nat} (h : RSf ops k = none) : ∀ n, k ≤ n → RSf ops n = none := by
  intro n
  induction n with
  | zero => intro hk; rw [show k = 0 by omega] at h; exact h
  | succ n ih =>
    intro hk
    by_cases q : k = n + 1
    · rw [← q]; exact h
    · show (match RSf ops n with | none => none | some s => FTs (ops n).toInt s.1 s.2) = _
      rw [ih (by omega)]
theorem FF_at {ops : Nat → Int32} {k : Nat} {s : Int × (Nat → Int32)} (h : RSf ops k = some s) (h1 : RSf ops (k + 1) = none) : ∀ n, k < n → FF ops n = (k : Int) := by
  intro n
  induction n with
  | zero => intro hk; omega
  | succ n ih =>
    intro hk
    show (match RSf ops n with | none => FF ops n | some _ => (n : Int)) = _
    by_cases q : k = n
    · subst q; rw [h]
    · rw [RS_n h1 n (by omega)]; exact ih (by omega)
theorem MIS_bad {ops : Nat → Int32} {k n : Nat} {s : Int × (Nat → Int32)} (h : RSf ops k = some s) (h1 : RSf ops (k + 1) = none) (hk : k < n) : MIS ops n = (k : Int) := by
  unfold MIS
  rw [RS_n h1 n hk]
  exact FF_at h h1 n hk
theorem MIS_end {ops : Nat → Int32} {n : Nat} {s : Int × (Nat → Int32)} (h : RSf ops n = some s) : MIS ops n = if s.1 = 1 then -1 else (n : Int) := by
  unfold MIS
  rw [h]
theorem RS_congr {f g : Nat → Int32} {n : Nat} (h : ∀ j, j < n → f j = g j) : ∀ k, k ≤ n → RSf f k = RSf g k := by
  intro k
  induction k with
  | zero => intro _; rfl
  | succ k ih =>
    intro hk
    show (match RSf f k with | none => none | some s => FTs (f k).toInt s.1 s.2) = (match RSf g k with | none => none | some s => FTs (g k).toInt s.1 s.2)
    rw [ih (by omega), h k (by omega)]
theorem FF_congr {f g : Nat → Int32} {n : Nat} (h : ∀ j, j < n → f j = g j) : ∀ k, k ≤ n → FF f k = FF g k := by
  intro k
  induction k with
  | zero => intro _; rfl
  | succ k ih =>
    intro hk
    show (match RSf f k with | none => FF f k | some _ => (k : Int)) = (match RSf g k with | none => FF g k | some _ => (k : Int))
    rw [RS_congr h k (by omega), ih (by omega)]
theorem MIS_congr {f g : Nat → Int32} {n : Nat} (h : ∀ j, j < n → f j = g j) : MIS f n = MIS g n := by
  unfold MIS
  rw [RS_congr h n (Nat.le_refl n), FF_congr h n (Nat.le_refl n)]
theorem FF_0 {ops : Nat → Int32} : ∀ n, 0 ≤ FF ops n := by
  intro n
  induction n with
  | zero => exact Int.le_refl 0
  | succ n ih =>
    show 0 ≤ (match RSf ops n with | none => FF ops n | some _ => (n : Int))
    cases RSf ops n with
    | none => exact ih
    | some s => exact Int.natCast_nonneg n
theorem MIS_whole {ops : Nat → Int32} {n : Nat} (h : MIS ops n = -1) : ∃ K : Nat → Int32, RSf ops n = some (1, K) := by
  unfold MIS at h
  cases hr : RSf ops n with
  | none => rw [hr] at h; have := FF_0 (ops := ops) n; simp only at h; omega
  | some s =>
    rw [hr] at h
    simp only at h
    by_cases q : s.1 = 1
    · exact ⟨s.2, by rw [← q]⟩
    · rw [if_neg q] at h; omega
theorem RS_ok {ops : Nat → Int32} : ∀ (n : Nat) (s : Int × (Nat → Int32)), RSf ops n = some s → okK s.1 s.2 := by
  intro n
  induction n with
  | zero => intro s h; injection h with h; subst h; exact ⟨by decide, fun j hj => absurd hj (by show ¬ (j : Int) < 0; omega)⟩
  | succ n ih =>
    intro s h
    cases hr : RSf ops n with
    | none => rw [RS_n hr (n + 1) (by omega)] at h; cases h
    | some s0 => rw [RS_s hr] at h; exact FTs_ok (ih s0 hr) h
theorem RS_okH {ops : Nat → Int32} {m : Nat} (hop : ∀ j, j < m → 0 ≤ (ops j).toInt ∧ (ops j).toInt ≤ 11) : ∀ (n : Nat) (s : Int × (Nat → Int32)), n ≤ m → RSf ops n = some s → s.1 = hgt ops n ∧ okH ops n := by
  intro n
  induction n with
  | zero => intro s _ h; injection h with h; subst h; exact ⟨rfl, okH_0 ops⟩
  | succ n ih =>
    intro s hn h
    cases hr : RSf ops n with
    | none => rw [RS_n hr (n + 1) (by omega)] at h; cases h
    | some s0 =>
      have hk := RS_ok (n + 1) s h
      rw [RS_s hr] at h
      obtain ⟨i1, i2⟩ := ih s0 (by omega) hr
      obtain ⟨q1, q2⟩ := FTs_h (hop n (by omega)) (RS_ok n s0 hr).1.1 h
      refine ⟨?_, okH_s i2 ?_⟩
      · show s.1 = hgt ops n + dlt (ops n).toInt
        omega
      · have := hk.1; omega
def TPp (ops : Nat → Int32) (j : Nat) (v : Int32) : Prop := ∀ (h : Int) (K : Nat → Int32), RSf ops (j + 1) = some (h, K) → v = if 0 < h then K (h - 1).toNat else -1
def FITR (ops : Nat → Int32) (n : Nat) (ip tp : Nat → Int32) : Prop := (ip 7).toInt = MIS ops n ∧ (∀ K : Nat → Int32, RSf ops n = some (1, K) → ip 8 = K 0) ∧ ∀ j, j < n → TPp ops j (tp j)
theorem FITR.congr {f g : Nat → Int32} {n : Nat} {ip tp : Nat → Int32} (h : ∀ j, j < n → f j = g j) (hf : FITR f n ip tp) : FITR g n ip tp := by
  obtain ⟨a, b, c⟩ := hf
  refine ⟨by rw [a, MIS_congr h], fun K hK => b K (by rw [RS_congr h n (Nat.le_refl n)]; exact hK), fun j hj q K hK => c j hj q K (by rw [RS_congr h (j + 1) (by omega)]; exact hK)⟩
