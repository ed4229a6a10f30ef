/-! ===== zones asked, as functions; what a program answers ===== -/
def stN (T : TST) (m : Int) : Nat → Nat
  | 0 => 0
  | n + 1 => if T.2.1 (n + 1) ≤ m then n + 1 else stN T m n
def ofT (T : TST) (m : Int) : Int := T.2.2 (stN T m T.1)
theorem stN_tt {T : TST} {m : Int} {j : Nat} (h : isTT T m j) : ∀ n, j ≤ n → n ≤ T.1 → stN T m n = j := by
  intro n
  induction n with
  | zero => intro h1 _; show (0 : Nat) = j; omega
  | succ n ih =>
    intro h1 h2
    unfold stN
    by_cases c : j = n + 1
    · rw [if_pos (h.2.1 (n + 1) (by omega) (by omega))]; exact c.symm
    · rw [if_neg (by have := h.2.2 (n + 1) (by omega) h2; omega)]; exact ih (by omega) (by omega)
theorem ofT_tt {T : TST} {m : Int} {j : Nat} (h : isTT T m j) : T.2.2 j = ofT T m := by unfold ofT; rw [stN_tt h T.1 h.1 (Nat.le_refl _)]
theorem stN_le {T : TST} {m : Int} : ∀ n, stN T m n ≤ n := by
  intro n
  induction n with
  | zero => exact Nat.le_refl _
  | succ n ih => unfold stN; split <;> omega
theorem ofT_bd {T : TST} {m D : Int} (h : okT D T) : -720 ≤ ofT T m ∧ ofT T m ≤ 720 := h.2.2.2 _ (stN_le _)
/-- the first and the last moment of a wall among the first n stretches, or -1 -/
def fhT (T : TST) (w : Int) : Nat → Int
  | 0 => -1
  | n + 1 => if fhT T w n = -1 then (if T.2.1 n ≤ w - T.2.2 n ∧ w - T.2.2 n < enT T n then w - T.2.2 n else -1) else fhT T w n
def lhT (T : TST) (w : Int) : Nat → Int
  | 0 => -1
  | n + 1 => if T.2.1 n ≤ w - T.2.2 n ∧ w - T.2.2 n < enT T n then w - T.2.2 n else lhT T w n
def mxI (a b : Int) : Int := if b < a then a else b
def mnI (a b : Int) : Int := if a < b then a else b
/-- the first moment of a wall within w .. to among the first n stretches, or -1 -/
def ffT (T : TST) (w to : Int) : Nat → Int
  | 0 => -1
  | n + 1 => if ffT T w to n = -1 then (if mxI (w - T.2.2 n) (T.2.1 n) < enT T n ∧ mxI (w - T.2.2 n) (T.2.1 n) + T.2.2 n ≤ to then mxI (w - T.2.2 n) (T.2.1 n) else -1) else ffT T w to n
/-- the last moment of a wall ahead of w -/
def laT (T : TST) (w : Int) : Nat → Int
  | 0 => -1
  | n + 1 => if T.2.1 n ≤ mnI (w - T.2.2 n) (enT T n) - 1 then mnI (w - T.2.2 n) (enT T n) - 1 else laT T w n
def trT (T : TST) (w y : Int) : Int := if lhT T w (T.1 + 1) = -1 then (if y = 1 then laT T w (T.1 + 1) else ffT T (w + 1) 2147483647 (T.1 + 1)) else (if y = 1 then lhT T w (T.1 + 1) else fhT T w (T.1 + 1))
section HITS
variable {T : TST} {w D : Int}
theorem lh_skip {k : Nat} : ∀ d, (∀ i, k ≤ i → i < k + d → ¬ hitT T w i) → lhT T w (k + d) = lhT T w k := by
  intro d
  induction d with
  | zero => intro _; rfl
  | succ d ih =>
    intro h
    have e : lhT T w (k + d + 1) = lhT T w (k + d) := if_neg (h (k + d) (by omega) (by omega))
    exact e.trans (ih (fun i h1 h2 => h i h1 (by omega)))
theorem fh_skip {k : Nat} : ∀ d, (∀ i, k ≤ i → i < k + d → ¬ hitT T w i) → fhT T w (k + d) = fhT T w k := by
  intro d
  induction d with
  | zero => intro _; rfl
  | succ d ih =>
    intro h
    have e : fhT T w (k + d + 1) = fhT T w (k + d) := by
      show (if fhT T w (k + d) = -1 then (if T.2.1 (k + d) ≤ w - T.2.2 (k + d) ∧ w - T.2.2 (k + d) < enT T (k + d) then w - T.2.2 (k + d) else -1) else fhT T w (k + d)) = _
      rw [if_neg (show ¬ (T.2.1 (k + d) ≤ w - T.2.2 (k + d) ∧ w - T.2.2 (k + d) < enT T (k + d)) from h (k + d) (by omega) (by omega))]
      by_cases c : fhT T w (k + d) = -1
      · rw [if_pos c, c]
      · rw [if_neg c]
    exact e.trans (ih (fun i h1 h2 => h i h1 (by omega)))
theorem ff_skip {to : Int} {k : Nat} : ∀ d, (∀ i, k ≤ i → i < k + d → ¬ (mxI (w - T.2.2 i) (T.2.1 i) < enT T i ∧ mxI (w - T.2.2 i) (T.2.1 i) + T.2.2 i ≤ to)) → ffT T w to (k + d) = ffT T w to k := by
  intro d
  induction d with
  | zero => intro _; rfl
  | succ d ih =>
    intro h
    have e : ffT T w to (k + d + 1) = ffT T w to (k + d) := by
      show (if ffT T w to (k + d) = -1 then (if mxI (w - T.2.2 (k + d)) (T.2.1 (k + d)) < enT T (k + d) ∧ mxI (w - T.2.2 (k + d)) (T.2.1 (k + d)) + T.2.2 (k + d) ≤ to then mxI (w - T.2.2 (k + d)) (T.2.1 (k + d)) else -1) else ffT T w to (k + d)) = _
      rw [if_neg (h (k + d) (by omega) (by omega))]
      by_cases c : ffT T w to (k + d) = -1
      · rw [if_pos c, c]
      · rw [if_neg c]
    exact e.trans (ih (fun i h1 h2 => h i h1 (by omega)))
theorem lh_sign (hT : okT D T) : ∀ n, n ≤ T.1 + 1 → lhT T w n = -1 ∨ 0 ≤ lhT T w n := by
  intro n
  induction n with
  | zero => intro _; exact Or.inl rfl
  | succ n ih =>
    intro hn
    have h1 := (hT.2.1 n (by omega)).1
    unfold lhT
    split
    · right; omega
    · exact ih (by omega)
theorem fh_sign (hT : okT D T) : ∀ n, n ≤ T.1 + 1 → fhT T w n = -1 ∨ 0 ≤ fhT T w n := by
  intro n
  induction n with
  | zero => intro _; exact Or.inl rfl
  | succ n ih =>
    intro hn
    have h1 := (hT.2.1 n (by omega)).1
    have h2 := ih (by omega)
    unfold fhT
    split
    · split
      · right; omega
      · exact Or.inl rfl
    · exact h2
theorem ff_sign {to : Int} (hT : okT D T) : ∀ n, n ≤ T.1 + 1 → ffT T w to n = -1 ∨ 0 ≤ ffT T w to n := by
  intro n
  induction n with
  | zero => intro _; exact Or.inl rfl
  | succ n ih =>
    intro hn
    have h1 := (hT.2.1 n (by omega)).1
    have h2 := ih (by omega)
    unfold ffT
    split
    · split
      · right; unfold mxI; split <;> omega
      · exact Or.inl rfl
    · exact h2
theorem la_sign (hT : okT D T) : ∀ n, n ≤ T.1 + 1 → laT T w n = -1 ∨ 0 ≤ laT T w n := by
  intro n
  induction n with
  | zero => intro _; exact Or.inl rfl
  | succ n ih =>
    intro hn
    have h1 := (hT.2.1 n (by omega)).1
    unfold laT
    split
    · right; omega
    · exact ih (by omega)
/-- both are told by the number of moments -/
theorem lh_cnt (hT : okT D T) : ∀ n, n ≤ T.1 + 1 → (lhT T w n = -1 ↔ cntU T w n = 0) := by
  intro n
  induction n with
  | zero => intro _; exact ⟨fun _ => rfl, fun _ => rfl⟩
  | succ n ih =>
    intro hn
    have h1 := (hT.2.1 n (by omega)).1
    unfold lhT cntU
    split
    · constructor
      · intro h; omega
      · intro h; omega
    · exact ih (by omega)
theorem lh_Mo (hT : okT D T) {r : Int} (h : MoT T w ((cntU T w (T.1 + 1) : Int) - 1) r) (hc : 0 < cntU T w (T.1 + 1)) : r = lhT T w (T.1 + 1) := by
  rcases h with ⟨k, a1, a2, a3, a4⟩ | ⟨a1, a2⟩
  · have e : ∀ i, k + 1 ≤ i → i < k + 1 + (T.1 - k) → ¬ hitT T w i := by
      intro i h1 h2 h3
      have g1 := cntU_hit a2 (show k < i by omega)
      have g2 := cntU_hit h3 (show i < T.1 + 1 by omega)
      omega
    have q := lh_skip (T := T) (w := w) (T.1 - k) e
    rw [show k + 1 + (T.1 - k) = T.1 + 1 by omega] at q
    rw [q, a4]
    exact (if_pos a2).symm
  · exact absurd (by omega) a1
theorem fh_keep {k : Nat} (h : fhT T w k ≠ -1) : ∀ d, fhT T w (k + d) = fhT T w k := by
  intro d
  induction d with
  | zero => rfl
  | succ d ih =>
    show (if fhT T w (k + d) = -1 then (if T.2.1 (k + d) ≤ w - T.2.2 (k + d) ∧ w - T.2.2 (k + d) < enT T (k + d) then w - T.2.2 (k + d) else -1) else fhT T w (k + d)) = _
    rw [ih, if_neg h]
theorem ff_keep {to : Int} {k : Nat} (h : ffT T w to k ≠ -1) : ∀ d, ffT T w to (k + d) = ffT T w to k := by
  intro d
  induction d with
  | zero => rfl
  | succ d ih =>
    show (if ffT T w to (k + d) = -1 then (if mxI (w - T.2.2 (k + d)) (T.2.1 (k + d)) < enT T (k + d) ∧ mxI (w - T.2.2 (k + d)) (T.2.1 (k + d)) + T.2.2 (k + d) ≤ to then mxI (w - T.2.2 (k + d)) (T.2.1 (k + d)) else -1) else ffT T w to (k + d)) = _
    rw [ih, if_neg h]
theorem fh_Mo (hT : okT D T) {r : Int} (h : MoT T w 0 r) (hc : 0 < cntU T w (T.1 + 1)) : r = fhT T w (T.1 + 1) := by
  rcases h with ⟨k, a1, a2, a3, a4⟩ | ⟨a1, a2⟩
  · have e : ∀ i, 0 ≤ i → i < 0 + k → ¬ hitT T w i := by
      intro i _ h2 h3
      have g1 := cntU_hit h3 (show i < k by omega)
      omega
    have q := fh_skip (T := T) (w := w) (k := 0) k e
    rw [Nat.zero_add] at q
    have q1 : fhT T w (k + 1) = w - T.2.2 k := by
      show (if fhT T w k = -1 then (if T.2.1 k ≤ w - T.2.2 k ∧ w - T.2.2 k < enT T k then w - T.2.2 k else -1) else fhT T w k) = _
      rw [if_pos (show fhT T w k = -1 from q)]
      exact if_pos a2
    have h1 := (hT.2.1 k a1).1
    have h2 := a2.1
    have q2 := fh_keep (T := T) (w := w) (k := k + 1) (by rw [q1]; omega) (T.1 - k)
    rw [show k + 1 + (T.1 - k) = T.1 + 1 by omega] at q2
    rw [q2, q1, a4]
  · exact absurd (by omega) a1
end HITS
/-! ===== the calendar: months as a function ===== -/
def kOf (ic md : Nat → Int32) (d : Int) : Nat → Nat
  | 0 => 0
  | n + 1 => if FKf ic md n ≤ d then n else kOf ic md d n
theorem kOf_eq {ic md : Nat → Int32} (hP : CalP ic md) {k : Nat} {d : Int} (h1 : FKf ic md k ≤ d) (h2 : d < FKf ic md (k + 1)) : ∀ N, k < N → kOf ic md d N = k := by
  intro N
  induction N with
  | zero => intro h; omega
  | succ N ih =>
    intro h
    unfold kOf
    by_cases c : k = N
    · subst c; rw [if_pos h1]
    · have := FK_mono hP (show k + 1 ≤ N by omega)
      rw [if_neg (by omega)]
      exact ih (by omega)
def mnF (ic md : Nat → Int32) (d n e : Int) : Int := MOf ic md (kOf ic md d 1200) (d - FKf ic md (kOf ic md d 1200)) n e
theorem mnF_eq {ic md : Nat → Int32} (hP : CalP ic md) {k : Nat} {d n e : Int} (hk : k < 1200) (h1 : FKf ic md k ≤ d) (h2 : d < FKf ic md (k + 1)) : MOf ic md k (d - FKf ic md k) n e = mnF ic md d n e := by
  unfold mnF
  rw [kOf_eq hP h1 h2 1200 hk]
/-! ===== a line at work ===== -/
def updI (f : Nat → Int) (k : Nat) (v : Int) : Nat → Int := fun j => if j = k then v else f j
theorem updI_same {f : Nat → Int} {k : Nat} {v : Int} : updI f k v k = v := if_pos rfl
theorem updI_ne {f : Nat → Int} {k j : Nat} {v : Int} (h : j ≠ k) : updI f k v j = f j := if_neg h
abbrev wiK (ic md : Nat → Int32) (kd v : Int) : Prop := (kd = 0 ∧ 0 ≤ v ∧ v < 60000000) ∨ (kd = 1 ∧ 0 ≤ v ∧ v < YSf md (ic 4).toInt (ic 5).toInt 100 * 1440) ∨ (kd = 2 ∧ 0 ≤ v ∧ v < YSf md (ic 4).toInt (ic 5).toInt 100) ∨ (¬ (kd = 0 ∨ kd = 1 ∨ kd = 2) ∧ -99999999 ≤ v ∧ v ≤ 99999999)
def chV (ic md : Nat → Int32) (TT : Nat → TST) (op x y kd v : Int) : Int :=
  if op = 1 then v + ofT (TT x.toNat) v
  else if op = 2 then v / 1440
  else if op = 3 then v * 1440 + x
  else if op = 4 then trT (TT x.toNat) v y
  else if op = 5 then v + x
  else if op = 6 then (if kd = 1 then v + x * 1440 else v + x)
  else mnF ic md v x y
def jnV (op kd u t : Int) : Int := if op = 9 then u + t else if kd = 2 then (t - u) * 1440 else t - u
/-- h, K: the pile's kinds ahead; q: the kind on top behind -/
def VSf (ic md : Nat → Int32) (TT : Nat → TST) (op x y m h : Int) (K : Nat → Int32) (q : Int) (V : Nat → Int) : Option (Nat → Int) :=
  if op = 0 then some (updI V h.toNat m)
  else if op = 10 then some (updI V h.toNat (V (h - 1).toNat))
  else if op = 11 then some (updI (updI V (h - 1).toNat (V (h - 2).toNat)) (h - 2).toNat (V (h - 1).toNat))
  else if op = 8 ∨ op = 9 then (if wiK ic md q (jnV op (K (h - 1).toNat).toInt (V (h - 2).toNat) (V (h - 1).toNat)) then some (updI V (h - 2).toNat (jnV op (K (h - 1).toNat).toInt (V (h - 2).toNat) (V (h - 1).toNat))) else none)
  else (if wiK ic md q (chV ic md TT op x y (K (h - 1).toNat).toInt (V (h - 1).toNat)) then some (updI V (h - 1).toNat (chV ic md TT op x y (K (h - 1).toNat).toInt (V (h - 1).toNat))) else none)
def RVf (ic md : Nat → Int32) (TT : Nat → TST) (fo fx fy : Nat → Int32) (m : Int) : Nat → Option (Nat → Int)
  | 0 => some (fun _ => 0)
  | k + 1 => match RSf fo k, RSf fo (k + 1), RVf ic md TT fo fx fy m k with
    | some s, some s1, some V => VSf ic md TT (fo k).toInt (fx k).toInt (fy k).toInt m s.1 s.2 (s1.2 (s1.1 - 1).toNat).toInt V
    | _, _, _ => none
def RUv (ic md : Nat → Int32) (TT : Nat → TST) (fo fx fy : Nat → Int32) (n : Nat) (m : Int) : Int := match RVf ic md TT fo fx fy m n with
  | none => -2000000000
  | some V => V 0
section RUNS
variable {ic md : Nat → Int32} {TT : Nat → TST} {fo fx fy : Nat → Int32} {m : Int}
theorem RV_s {k : Nat} {s s1 : Int × (Nat → Int32)} {V : Nat → Int} (h1 : RSf fo k = some s) (h2 : RSf fo (k + 1) = some s1) (h3 : RVf ic md TT fo fx fy m k = some V) : RVf ic md TT fo fx fy m (k + 1) = VSf ic md TT (fo k).toInt (fx k).toInt (fy k).toInt m s.1 s.2 (s1.2 (s1.1 - 1).toNat).toInt V := by
  show (match RSf fo k, RSf fo (k + 1), RVf ic md TT fo fx fy m k with
    | some s, some s1, some V => VSf ic md TT (fo k).toInt (fx k).toInt (fy k).toInt m s.1 s.2 (s1.2 (s1.1 - 1).toNat).toInt V
    | _, _, _ => none) = _
  rw [h1, h2, h3]
theorem RV_n {k : Nat} (h : RVf ic md TT fo fx fy m k = none) : ∀ n, k ≤ n → RVf ic md TT fo fx fy m n = none := by
  intro n
  induction n with
  | zero => intro hk; rw [show k = 0 by omega] at h; exact h
  | succ n ih =>
    intro hk
    by_cases q : k = n + 1
    · rw [← q]; exact h
    · show (match RSf fo n, RSf fo (n + 1), RVf ic md TT fo fx fy m n with
        | some s, some s1, some V => VSf ic md TT (fo n).toInt (fx n).toInt (fy n).toInt m s.1 s.2 (s1.2 (s1.1 - 1).toNat).toInt V
        | _, _, _ => none) = none
      rw [ih (by omega)]
      cases RSf fo n with
      | none => rfl
      | some a =>
        cases RSf fo (n + 1) with
        | none => rfl
        | some b => rfl
theorem RU_none {k n : Nat} (h : RVf ic md TT fo fx fy m k = none) (hk : k ≤ n) : RUv ic md TT fo fx fy n m = -2000000000 := by
  unfold RUv
  rw [RV_n h n hk]
theorem RU_some {n : Nat} {V : Nat → Int} (h : RVf ic md TT fo fx fy m n = some V) : RUv ic md TT fo fx fy n m = V 0 := by
  unfold RUv
  rw [h]
/-- a whole program's lines all fit -/
theorem RS_all {n : Nat} {K : Nat → Int32} (h : RSf fo n = some (1, K)) {k : Nat} (hk : k ≤ n) : ∃ s, RSf fo k = some s := by
  cases hr : RSf fo k with
  | none => rw [RS_n hr n hk] at h; cases h
  | some s => exact ⟨s, rfl⟩
end RUNS
/-- what lies on the pile is within its kind -/
def okV (ic md : Nat → Int32) (h : Int) (K : Nat → Int32) (V : Nat → Int) : Prop := ∀ j : Nat, (j : Int) < h → wiK ic md (K j).toInt (V j)
theorem okV_up {ic md : Nat → Int32} {h h1 : Int} {K K1 : Nat → Int32} {V : Nat → Int} {k : Nat} {v : Int} (ho : okV ic md h K V) (hv : wiK ic md (K1 k).toInt v) (hk : ∀ j : Nat, (j : Int) < h1 → j ≠ k → (j : Int) < h ∧ K1 j = K j) : okV ic md h1 K1 (updI V k v) := by
  intro j hj
  by_cases c : j = k
  · rw [c, updI_same]; exact hv
  · rw [updI_ne c, (hk j hj c).2]; exact ho j (hk j hj c).1
theorem ti_wi {ic md : Nat → Int32} (hP : CalP ic md) {kd v : Int} (h : wiK ic md kd v) : -99999999 ≤ v ∧ v ≤ 99999999 := by
  have := cal_y hP
  unfold wiK at h
  omega
/-! ===== stretches without a moment of the wall ===== -/
theorem nohit_low {T : TST} {w : Int} {i j : Nat} {D : Int} (hT : okT D T) (hj : isTT T (w - 720) j) (hi : i < j) : ¬ hitT T w i := by
  intro q
  have h0 := hj.1
  have h1 := hT.2.2.2 i (by omega)
  have h3 := hj.2.1 (i + 1) (by omega) (by omega)
  have h4 := q.2
  rw [en_mid (by omega)] at h4
  unfold mn60 at h4
  split at h4 <;> omega
theorem nohit_high {T : TST} {w : Int} {i j : Nat} {D : Int} (hT : okT D T) (h1 : 1 ≤ j) (hj : w + 720 < T.2.1 j) (hji : j ≤ i) (hi : i ≤ T.1) : ¬ hitT T w i := by
  intro q
  have h4 := hT.2.2.2 i hi
  have h2 := okT_le hT h1 hji hi
  have h3 := q.1
  omega
theorem hit_low {T : TST} {w D : Int} {j : Nat} (hT : okT D T) (hj : isTT T (w - 720) j) : lhT T w j = -1 ∧ fhT T w j = -1 := by
  have e : ∀ i, 0 ≤ i → i < 0 + j → ¬ hitT T w i := fun i _ h2 => nohit_low hT hj (by omega)
  have h1 := lh_skip (T := T) (w := w) (k := 0) j e
  have h2 := fh_skip (T := T) (w := w) (k := 0) j e
  rw [Nat.zero_add] at h1 h2
  exact ⟨h1, h2⟩
theorem hit_end {T : TST} {w : Int} {j : Nat} (hj : j ≤ T.1 + 1) (h : ∀ i, j ≤ i → i ≤ T.1 → ¬ hitT T w i) : lhT T w (T.1 + 1) = lhT T w j ∧ fhT T w (T.1 + 1) = fhT T w j := by
  have h1 := lh_skip (T := T) (w := w) (k := j) (T.1 + 1 - j) (fun i a b => h i a (by omega))
  have h2 := fh_skip (T := T) (w := w) (k := j) (T.1 + 1 - j) (fun i a b => h i a (by omega))
  rw [show j + (T.1 + 1 - j) = T.1 + 1 by omega] at h1 h2
  exact ⟨h1, h2⟩
theorem ff_low {T : TST} {w to D : Int} {j : Nat} (hT : okT D T) (hjc : j ≤ T.1) (hj : ∀ i, 1 ≤ i → i ≤ j → T.2.1 i ≤ w - 720) : ffT T w to j = -1 := by
  have h1 := ff_skip (T := T) (w := w) (to := to) (k := 0) j (fun i _ h2 q => by
    have a1 := hT.2.2.2 i (by omega)
    have a3 := hj (i + 1) (by omega) (by omega)
    have a4 := q.1
    rw [en_mid (by omega)] at a4
    unfold mn60 mxI at a4
    split at a4 <;> split at a4 <;> omega)
  rw [Nat.zero_add] at h1
  exact h1
theorem ff_hit {T : TST} {w to x : Int} {k : Nat} (h : ffT T w to k = -1) (hx : x = mxI (w - T.2.2 k) (T.2.1 k)) (h1 : x < enT T k) (h2 : x + T.2.2 k ≤ to) (h0 : 0 ≤ x) (hk : k ≤ T.1) : ffT T w to (T.1 + 1) = x := by
  have e : ffT T w to (k + 1) = x := by
    show (if ffT T w to k = -1 then (if mxI (w - T.2.2 k) (T.2.1 k) < enT T k ∧ mxI (w - T.2.2 k) (T.2.1 k) + T.2.2 k ≤ to then mxI (w - T.2.2 k) (T.2.1 k) else -1) else ffT T w to k) = x
    rw [if_pos h, ← hx, if_pos ⟨h1, h2⟩]
  have q := ff_keep (T := T) (w := w) (to := to) (k := k + 1) (by rw [e]; omega) (T.1 - k)
  rw [show k + 1 + (T.1 - k) = T.1 + 1 by omega] at q
  rw [q, e]
theorem ff_miss {T : TST} {w to x : Int} {k : Nat} (h : ffT T w to k = -1) (hx : x = mxI (w - T.2.2 k) (T.2.1 k)) (h1 : ¬ (x < enT T k ∧ x + T.2.2 k ≤ to)) : ffT T w to (k + 1) = -1 := by
  show (if ffT T w to k = -1 then (if mxI (w - T.2.2 k) (T.2.1 k) < enT T k ∧ mxI (w - T.2.2 k) (T.2.1 k) + T.2.2 k ≤ to then mxI (w - T.2.2 k) (T.2.1 k) else -1) else ffT T w to k) = -1
  rw [if_pos h, ← hx, if_neg h1]
theorem la_hit {T : TST} {w x : Int} {k : Nat} (hx : x = mnI (w - T.2.2 k) (enT T k) - 1) (h1 : T.2.1 k ≤ x) : laT T w (k + 1) = x := by
  show (if T.2.1 k ≤ mnI (w - T.2.2 k) (enT T k) - 1 then mnI (w - T.2.2 k) (enT T k) - 1 else laT T w k) = x
  rw [← hx, if_pos h1]
theorem la_miss {T : TST} {w x : Int} {k : Nat} (hx : x = mnI (w - T.2.2 k) (enT T k) - 1) (h1 : ¬ T.2.1 k ≤ x) : laT T w (k + 1) = laT T w k := by
  show (if T.2.1 k ≤ mnI (w - T.2.2 k) (enT T k) - 1 then mnI (w - T.2.2 k) (enT T k) - 1 else laT T w k) = laT T w k
  rw [← hx, if_neg h1]
theorem lh_pos {T : TST} {w : Int} {k : Nat} (h : hitT T w k) : lhT T w (k + 1) = w - T.2.2 k := if_pos h
theorem lh_neg {T : TST} {w : Int} {k : Nat} (h : ¬ hitT T w k) : lhT T w (k + 1) = lhT T w k := if_neg h
theorem fh_neg {T : TST} {w : Int} {k : Nat} (h : ¬ hitT T w k) : fhT T w (k + 1) = fhT T w k := fh_skip (T := T) (w := w) (k := k) 1 (fun i h1 h2 => by rw [show i = k by omega]; exact h)
theorem fh_pos {T : TST} {w : Int} {k : Nat} (h : hitT T w k) (hf : fhT T w k = -1) : fhT T w (k + 1) = w - T.2.2 k := by
  show (if fhT T w k = -1 then (if T.2.1 k ≤ w - T.2.2 k ∧ w - T.2.2 k < enT T k then w - T.2.2 k else -1) else fhT T w k) = _
  rw [if_pos hf]
  exact if_pos h
theorem fh_stay {T : TST} {w : Int} {k : Nat} (hf : fhT T w k ≠ -1) : fhT T w (k + 1) = fhT T w k := fh_keep hf 1
theorem fh_cnt {T : TST} {w D : Int} (hT : okT D T) : ∀ n, n ≤ T.1 + 1 → (fhT T w n = -1 ↔ cntU T w n = 0) := by
  intro n
  induction n with
  | zero => intro _; exact ⟨fun _ => rfl, fun _ => rfl⟩
  | succ n ih =>
    intro hn
    have h1 := (hT.2.1 n (by omega)).1
    have h2 := ih (by omega)
    by_cases c : hitT T w n
    · have e : cntU T w (n + 1) = cntU T w n + 1 := if_pos c
      rw [e]
      constructor
      · intro h
        by_cases g : fhT T w n = -1
        · rw [fh_pos c g] at h; have := c.1; omega
        · rw [fh_stay g] at h; exact absurd h g
      · intro h; omega
    · have e : cntU T w (n + 1) = cntU T w n := if_neg c
      rw [e, fh_neg c]
      exact h2
theorem tr_hit {T : TST} {w y f D : Int} (hT : okT D T) (h1 : y = 1 → f = lhT T w (T.1 + 1)) (h0 : y = 0 → f = fhT T w (T.1 + 1)) (hy : y = 0 ∨ y = 1) (hf : f ≠ -1) : trT T w y = f := by
  have a := lh_cnt (w := w) hT (T.1 + 1) (Nat.le_refl _)
  have b := fh_cnt (w := w) hT (T.1 + 1) (Nat.le_refl _)
  unfold trT
  rcases hy with c | c
  · have e := h0 c
    rw [if_neg (fun q => hf (by rw [e]; exact b.mpr (a.mp q))), if_neg (by omega)]
    exact e.symm
  · have e := h1 c
    rw [if_neg (by rw [← e]; exact hf), if_pos c]
    exact e.symm
theorem tr_la {T : TST} {w y : Int} (h1 : lhT T w (T.1 + 1) = -1) (hy : y = 1) : trT T w y = laT T w (T.1 + 1) := by
  unfold trT
  rw [if_pos h1, if_pos hy]
theorem tr_ff {T : TST} {w y : Int} (h1 : lhT T w (T.1 + 1) = -1) (hy : ¬ y = 1) : trT T w y = ffT T (w + 1) 2147483647 (T.1 + 1) := by
  unfold trT
  rw [if_pos h1, if_neg hy]
theorem fh_lh {T : TST} {w D : Int} (hT : okT D T) (h : fhT T w (T.1 + 1) = -1) : lhT T w (T.1 + 1) = -1 := (lh_cnt hT _ (Nat.le_refl _)).mpr ((fh_cnt hT _ (Nat.le_refl _)).mp h)
theorem STR_en {T : TST} {c : Nat} {ss se os : Nat → Int32} (hc : c = T.1) (hZ : ZR (c : Int) ss os T) (hS : STR c ss se os) {k : Nat} (hk : k ≤ c) : (se k).toInt = enT T k := by
  unfold enT
  rw [hS.2.2.2.2.2 k hk]
  by_cases q : k < c
  · rw [if_pos q, if_pos (by omega), (hZ.2 (k + 1) (by omega)).1]
  · rw [if_neg q, if_neg (by omega)]
theorem tr_sign {T : TST} {w y D : Int} (hT : okT D T) : trT T w y = -1 ∨ 0 ≤ trT T w y := by
  unfold trT
  split
  · split
    · exact la_sign hT _ (Nat.le_refl _)
    · exact ff_sign hT _ (Nat.le_refl _)
  · split
    · exact lh_sign hT _ (Nat.le_refl _)
    · exact fh_sign hT _ (Nat.le_refl _)
theorem en_60 {T : TST} {k : Nat} : enT T k ≤ 60000000 := by
  unfold enT mn60
  split
  · split <;> omega
  · omega
theorem en_0 {T : TST} {k : Nat} {D : Int} (hT : okT D T) (hk : k ≤ T.1) : 0 ≤ enT T k := by
  unfold enT mn60
  split
  · have := (hT.2.1 (k + 1) (by omega)).1
    split <;> omega
  · omega
theorem lh_60 {T : TST} {w : Int} : ∀ n, lhT T w n < 60000000 := by
  intro n
  induction n with
  | zero => exact (show (-1 : Int) < 60000000 by decide)
  | succ n ih => unfold lhT; have := en_60 (T := T) (k := n); split <;> omega
theorem fh_60 {T : TST} {w : Int} : ∀ n, fhT T w n < 60000000 := by
  intro n
  induction n with
  | zero => exact (show (-1 : Int) < 60000000 by decide)
  | succ n ih =>
    unfold fhT
    have := en_60 (T := T) (k := n)
    split
    · split <;> omega
    · exact ih
theorem ff_60 {T : TST} {w to : Int} : ∀ n, ffT T w to n < 60000000 := by
  intro n
  induction n with
  | zero => exact (show (-1 : Int) < 60000000 by decide)
  | succ n ih =>
    unfold ffT
    have := en_60 (T := T) (k := n)
    split
    · split <;> omega
    · exact ih
theorem la_60 {T : TST} {w : Int} : ∀ n, laT T w n < 60000000 := by
  intro n
  induction n with
  | zero => exact (show (-1 : Int) < 60000000 by decide)
  | succ n ih =>
    unfold laT mnI
    have := en_60 (T := T) (k := n)
    split <;> split <;> omega
theorem tr_60 {T : TST} {w y : Int} : trT T w y < 60000000 := by
  unfold trT
  split
  · split
    · exact la_60 _
    · exact ff_60 _
  · split
    · exact lh_60 _
    · exact fh_60 _
theorem VS_ok {ic md : Nat → Int32} {TT : Nat → TST} {op x y m h h1 : Int} {K K1 : Nat → Int32} {V V1 : Nat → Int} (hm : 0 ≤ m ∧ m < 60000000) (hop : 0 ≤ op ∧ op ≤ 11) (hok : okK h K) (ho : okV ic md h K V) (hf : FTs op h K = some (h1, K1)) (hv : VSf ic md TT op x y m h K (K1 (h1 - 1).toNat).toInt V = some V1) : okV ic md h1 K1 V1 := by
  have hh := hok.1
  unfold FTs at hf
  unfold VSf at hv
  rcases (show op = 0 ∨ op = 1 ∨ op = 2 ∨ op = 3 ∨ op = 4 ∨ op = 5 ∨ op = 6 ∨ op = 7 ∨ op = 8 ∨ op = 9 ∨ op = 10 ∨ op = 11 by omega) with rfl | rfl | rfl | rfl | rfl | rfl | rfl | rfl | rfl | rfl | rfl | rfl
  · rw [if_pos rfl] at hf
    rw [if_pos rfl] at hv
    split at hf
    · rename_i g
      injection hf with q
      injection q with q1 q2
      subst q1 q2
      injection hv with hv
      subst hv
      exact okV_up ho (by rw [upd_same]; exact Or.inl ⟨by decide, hm⟩) (fun j hj c => ⟨by omega, upd_ne c⟩)
    · cases hf
  · rw [if_neg (by decide), if_pos rfl] at hf
    rw [if_neg (by decide), if_neg (by decide), if_neg (by decide), if_neg (by decide)] at hv
    split at hf
    · rename_i g
      injection hf with q
      injection q with q1 q2
      subst q1 q2
      split at hv
      · rename_i w
        injection hv with hv
        subst hv
        exact okV_up ho w (fun j hj c => ⟨hj, upd_ne c⟩)
      · cases hv
    · cases hf
  · rw [if_neg (by decide), if_neg (by decide), if_pos rfl] at hf
    rw [if_neg (by decide), if_neg (by decide), if_neg (by decide), if_neg (by decide)] at hv
    split at hf
    · rename_i g
      injection hf with q
      injection q with q1 q2
      subst q1 q2
      split at hv
      · rename_i w
        injection hv with hv
        subst hv
        exact okV_up ho w (fun j hj c => ⟨hj, upd_ne c⟩)
      · cases hv
    · cases hf
  · rw [if_neg (by decide), if_neg (by decide), if_neg (by decide), if_pos rfl] at hf
    rw [if_neg (by decide), if_neg (by decide), if_neg (by decide), if_neg (by decide)] at hv
    split at hf
    · rename_i g
      injection hf with q
      injection q with q1 q2
      subst q1 q2
      split at hv
      · rename_i w
        injection hv with hv
        subst hv
        exact okV_up ho w (fun j hj c => ⟨hj, upd_ne c⟩)
      · cases hv
    · cases hf
  · rw [if_neg (by decide), if_neg (by decide), if_neg (by decide), if_neg (by decide), if_pos rfl] at hf
    rw [if_neg (by decide), if_neg (by decide), if_neg (by decide), if_neg (by decide)] at hv
    split at hf
    · rename_i g
      injection hf with q
      injection q with q1 q2
      subst q1 q2
      split at hv
      · rename_i w
        injection hv with hv
        subst hv
        exact okV_up ho w (fun j hj c => ⟨hj, upd_ne c⟩)
      · cases hv
    · cases hf
  · rw [if_neg (by decide), if_neg (by decide), if_neg (by decide), if_neg (by decide), if_neg (by decide), if_pos rfl] at hf
    rw [if_neg (by decide), if_neg (by decide), if_neg (by decide), if_neg (by decide)] at hv
    split at hf
    · rename_i g
      injection hf with q
      injection q with q1 q2
      subst q1 q2
      split at hv
      · rename_i w
        injection hv with hv
        subst hv
        exact okV_up ho w (fun j hj c => ⟨hj, rfl⟩)
      · cases hv
    · cases hf
  · rw [if_neg (by decide), if_neg (by decide), if_neg (by decide), if_neg (by decide), if_neg (by decide), if_neg (by decide), if_pos rfl] at hf
    rw [if_neg (by decide), if_neg (by decide), if_neg (by decide), if_neg (by decide)] at hv
    split at hf
    · rename_i g
      injection hf with q
      injection q with q1 q2
      subst q1 q2
      split at hv
      · rename_i w
        injection hv with hv
        subst hv
        exact okV_up ho w (fun j hj c => ⟨hj, rfl⟩)
      · cases hv
    · cases hf
  · rw [if_neg (by decide), if_neg (by decide), if_neg (by decide), if_neg (by decide), if_neg (by decide), if_neg (by decide), if_neg (by decide), if_pos rfl] at hf
    rw [if_neg (by decide), if_neg (by decide), if_neg (by decide), if_neg (by decide)] at hv
    split at hf
    · rename_i g
      injection hf with q
      injection q with q1 q2
      subst q1 q2
      split at hv
      · rename_i w
        injection hv with hv
        subst hv
        exact okV_up ho w (fun j hj c => ⟨hj, rfl⟩)
      · cases hv
    · cases hf
  · rw [if_neg (by decide), if_neg (by decide), if_neg (by decide), if_neg (by decide), if_neg (by decide), if_neg (by decide), if_neg (by decide), if_neg (by decide), if_pos rfl] at hf
    rw [if_neg (by decide), if_neg (by decide), if_neg (by decide), if_pos (by decide)] at hv
    split at hf
    · rename_i g
      injection hf with q
      injection q with q1 q2
      subst q1 q2
      rw [show h - 1 - 1 = h - 2 by omega] at hv
      split at hv
      · rename_i w
        injection hv with hv
        subst hv
        exact okV_up ho w (fun j hj c => ⟨by omega, upd_ne c⟩)
      · cases hv
    · cases hf
  · rw [if_neg (by decide), if_neg (by decide), if_neg (by decide), if_neg (by decide), if_neg (by decide), if_neg (by decide), if_neg (by decide), if_neg (by decide), if_neg (by decide), if_pos rfl] at hf
    rw [if_neg (by decide), if_neg (by decide), if_neg (by decide), if_pos (by decide)] at hv
    split at hf
    · rename_i g
      injection hf with q
      injection q with q1 q2
      subst q1 q2
      rw [show h - 1 - 1 = h - 2 by omega] at hv
      split at hv
      · rename_i w
        injection hv with hv
        subst hv
        exact okV_up ho w (fun j hj c => ⟨by omega, rfl⟩)
      · cases hv
    · cases hf
  · rw [if_neg (by decide), if_neg (by decide), if_neg (by decide), if_neg (by decide), if_neg (by decide), if_neg (by decide), if_neg (by decide), if_neg (by decide), if_neg (by decide), if_neg (by decide), if_pos rfl] at hf
    rw [if_neg (by decide), if_pos rfl] at hv
    split at hf
    · rename_i g
      injection hf with q
      injection q with q1 q2
      subst q1 q2
      injection hv with hv
      subst hv
      exact okV_up ho (by rw [upd_same]; exact ho _ (by omega)) (fun j hj c => ⟨by omega, upd_ne c⟩)
    · cases hf
  · rw [if_neg (by decide), if_neg (by decide), if_neg (by decide), if_neg (by decide), if_neg (by decide), if_neg (by decide), if_neg (by decide), if_neg (by decide), if_neg (by decide), if_neg (by decide), if_neg (by decide)] at hf
    rw [if_neg (by decide), if_neg (by decide), if_pos rfl] at hv
    split at hf
    · rename_i g
      injection hf with q
      injection q with q1 q2
      subst q1 q2
      injection hv with hv
      subst hv
      exact okV_up (h := h) (K := upd K (h - 1).toNat (K (h - 2).toNat)) (okV_up ho (by rw [upd_same]; exact ho _ (by omega)) (fun j hj c => ⟨hj, upd_ne c⟩)) (by rw [upd_same]; exact ho _ (by omega)) (fun j hj c => ⟨hj, upd_ne c⟩)
    · cases hf
