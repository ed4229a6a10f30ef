/-! ===== what rules say, in order of wall, of one wall the rule told last ===== -/
def insL (w v : Int) : List (Int × Int) → List (Int × Int)
  | [] => [(w, v)]
  | p :: L => if w < p.1 then (w, v) :: p :: L else if w = p.1 then (w, v) :: L else p :: insL w v L
def lkL (u : Int) : List (Int × Int) → Option Int
  | [] => none
  | p :: L => if u = p.1 then some p.2 else lkL u L
def srt : List (Int × Int) → Prop
  | [] => True
  | p :: L => (∀ q ∈ L, p.1 < q.1) ∧ srt L
theorem lk_ins (u w v : Int) : ∀ L : List (Int × Int), lkL u (insL w v L) = if u = w then some v else lkL u L := by
  intro L
  induction L with
  | nil => rfl
  | cons p L ih =>
    unfold insL
    by_cases h1 : w < p.1
    · rw [if_pos h1]; rfl
    · rw [if_neg h1]
      by_cases h2 : w = p.1
      · rw [if_pos h2]
        show (if u = w then some v else lkL u L) = if u = w then some v else (if u = p.1 then some p.2 else lkL u L)
        by_cases q : u = w
        · rw [if_pos q, if_pos q]
        · rw [if_neg q, if_neg q, if_neg (by rw [← h2]; exact q)]
      · rw [if_neg h2]
        show (if u = p.1 then some p.2 else lkL u (insL w v L)) = if u = w then some v else (if u = p.1 then some p.2 else lkL u L)
        rw [ih]
        by_cases q : u = w
        · rw [if_pos q, if_pos q, if_neg (by rw [q]; exact h2)]
        · rw [if_neg q, if_neg q]
theorem mem_ins {q : Int × Int} {w v : Int} : ∀ L : List (Int × Int), q ∈ insL w v L → q = (w, v) ∨ q ∈ L := by
  intro L
  induction L with
  | nil => intro h; simp only [insL, List.mem_cons, List.not_mem_nil, or_false] at h; exact Or.inl h
  | cons p L ih =>
    intro h
    unfold insL at h
    by_cases h1 : w < p.1
    · rw [if_pos h1] at h
      rcases List.mem_cons.mp h with e | e
      · exact Or.inl e
      · exact Or.inr e
    · rw [if_neg h1] at h
      by_cases h2 : w = p.1
      · rw [if_pos h2] at h
        rcases List.mem_cons.mp h with e | e
        · exact Or.inl e
        · exact Or.inr (List.mem_cons_of_mem _ e)
      · rw [if_neg h2] at h
        rcases List.mem_cons.mp h with e | e
        · exact Or.inr (by rw [e]; exact List.mem_cons_self)
        · rcases ih e with f | f
          · exact Or.inl f
          · exact Or.inr (List.mem_cons_of_mem _ f)
theorem srt_ins {w v : Int} : ∀ L : List (Int × Int), srt L → srt (insL w v L) := by
  intro L
  induction L with
  | nil => intro _; exact ⟨fun q hq => absurd hq List.not_mem_nil, trivial⟩
  | cons p L ih =>
    intro h
    unfold insL
    by_cases h1 : w < p.1
    · rw [if_pos h1]
      refine ⟨fun q hq => ?_, h⟩
      rcases List.mem_cons.mp hq with e | e
      · rw [e]; exact h1
      · have := h.1 q e; show w < q.1; omega
    · rw [if_neg h1]
      by_cases h2 : w = p.1
      · rw [if_pos h2]
        exact ⟨fun q hq => by have := h.1 q hq; show w < q.1; omega, h.2⟩
      · rw [if_neg h2]
        refine ⟨fun q hq => ?_, ih h.2⟩
        rcases mem_ins L hq with e | e
        · rw [e]; show p.1 < w; omega
        · exact h.1 q e
theorem lk_none {u : Int} : ∀ L : List (Int × Int), (∀ q ∈ L, u ≠ q.1) → lkL u L = none := by
  intro L
  induction L with
  | nil => intro _; rfl
  | cons p L ih =>
    intro h
    show (if u = p.1 then some p.2 else lkL u L) = none
    rw [if_neg (h p List.mem_cons_self)]
    exact ih (fun q hq => h q (List.mem_cons_of_mem _ hq))
theorem srt_ext : ∀ L M : List (Int × Int), srt L → srt M → (∀ u, lkL u L = lkL u M) → L = M := by
  intro L
  induction L with
  | nil =>
    intro M _ _ h
    cases M with
    | nil => rfl
    | cons q M =>
      have e := h q.1
      have e2 : lkL q.1 (q :: M) = some q.2 := if_pos rfl
      rw [e2] at e
      cases e
  | cons p L ih =>
    intro M hL hM h
    cases M with
    | nil =>
      have e := h p.1
      have e2 : lkL p.1 (p :: L) = some p.2 := if_pos rfl
      rw [e2] at e
      cases e
    | cons q M =>
      have e2 : lkL p.1 (p :: L) = some p.2 := if_pos rfl
      have e3 : lkL q.1 (q :: M) = some q.2 := if_pos rfl
      have k : p.1 = q.1 := by
        by_cases a : p.1 < q.1
        · have := h p.1
          rw [e2, lk_none (q :: M) (fun x hx => by rcases List.mem_cons.mp hx with f | f; (rw [f]; omega); (have := hM.1 x f; omega))] at this
          cases this
        · by_cases b : q.1 < p.1
          · have := h q.1
            rw [e3, lk_none (p :: L) (fun x hx => by rcases List.mem_cons.mp hx with f | f; (rw [f]; omega); (have := hL.1 x f; omega))] at this
            cases this
          · omega
      have v : p.2 = q.2 := by
        have := h p.1
        rw [e2, k, e3] at this
        injection this
      have pq : p = q := Prod.ext k v
      subst pq
      congr 1
      refine ih M hL.2 hM.2 (fun u => ?_)
      by_cases a : u = p.1
      · rw [lk_none L (fun x hx => by have := hL.1 x hx; omega), lk_none M (fun x hx => by have := hM.1 x hx; omega)]
      · have := h u
        have f1 : lkL u (p :: L) = lkL u L := if_neg a
        have f2 : lkL u (p :: M) = lkL u M := if_neg a
        rw [f1, f2] at this
        exact this
theorem ins_new {w v : Int} : ∀ (L : List (Int × Int)) (k : Nat), k ≤ L.length → (∀ i p, i < k → L[i]? = some p → p.1 < w) → (∀ p, L[k]? = some p → w < p.1) → (insL w v L).length = L.length + 1 ∧ ∀ i, (insL w v L)[i]? = if i < k then L[i]? else if i = k then some (w, v) else L[i - 1]? := by
  intro L
  induction L with
  | nil =>
    intro k hk _ _
    have hk0 : k = 0 := Nat.le_zero.mp hk
    subst hk0
    refine ⟨rfl, fun i => ?_⟩
    cases i with
    | zero => rfl
    | succ i => rw [if_neg (by omega), if_neg (by omega)]; rfl
  | cons p L ih =>
    intro k hk h1 h2
    cases k with
    | zero =>
      have hw : w < p.1 := h2 p rfl
      unfold insL
      rw [if_pos hw]
      refine ⟨rfl, fun i => ?_⟩
      cases i with
      | zero => rfl
      | succ i => rw [if_neg (by omega), if_neg (by omega)]; rfl
    | succ k =>
      have hw : p.1 < w := h1 0 p (by omega) rfl
      unfold insL
      rw [if_neg (by omega), if_neg (by omega)]
      obtain ⟨i1, i2⟩ := ih k (by simp only [List.length_cons] at hk; omega) (fun i q hi hq => h1 (i + 1) q (by omega) hq) (fun q hq => h2 q hq)
      refine ⟨by simp only [List.length_cons, i1], fun i => ?_⟩
      cases i with
      | zero => rw [if_pos (by omega)]; rfl
      | succ i =>
        show (insL w v L)[i]? = _
        rw [i2 i]
        by_cases a : i < k
        · rw [if_pos a, if_pos (show i + 1 < k + 1 by omega)]; rfl
        · rw [if_neg a, if_neg (show ¬ i + 1 < k + 1 by omega)]
          by_cases b : i = k
          · rw [if_pos b, if_pos (show i + 1 = k + 1 by omega)]
          · rw [if_neg b, if_neg (show ¬ i + 1 = k + 1 by omega)]
            obtain ⟨m, rfl⟩ : ∃ m, i = m + 1 := ⟨i - 1, by omega⟩
            rfl
theorem ins_same {w v : Int} : ∀ (L : List (Int × Int)) (k : Nat) (x : Int), L[k]? = some (w, x) → (∀ i p, i < k → L[i]? = some p → p.1 < w) → (insL w v L).length = L.length ∧ ∀ i, (insL w v L)[i]? = if i = k then some (w, v) else L[i]? := by
  intro L
  induction L with
  | nil => intro k x hk _; cases hk
  | cons p L ih =>
    intro k x hk h1
    cases k with
    | zero =>
      have hp : p = (w, x) := by injection hk
      unfold insL
      rw [if_neg (by rw [hp]; exact Int.lt_irrefl w), if_pos (by rw [hp])]
      refine ⟨rfl, fun i => ?_⟩
      cases i with
      | zero => rfl
      | succ i => rw [if_neg (by omega)]; rfl
    | succ k =>
      have hw : p.1 < w := h1 0 p (by omega) rfl
      unfold insL
      rw [if_neg (by omega), if_neg (by omega)]
      obtain ⟨i1, i2⟩ := ih k x hk (fun i q hi hq => h1 (i + 1) q (by omega) hq)
      refine ⟨by simp only [List.length_cons, i1], fun i => ?_⟩
      cases i with
      | zero => rw [if_neg (by omega)]; rfl
      | succ i =>
        show (insL w v L)[i]? = _
        rw [i2 i]
        by_cases b : i = k
        · rw [if_pos b, if_pos (by omega)]
        · rw [if_neg b, if_neg (by omega)]; rfl
/-- an array of walls and one of offsets hold a list -/
def AR (c : Nat) (ws os : Nat → Int32) (L : List (Int × Int)) : Prop := L.length = c ∧ ∀ i, i < c → L[i]? = some ((ws i).toInt, (os i).toInt)
theorem AR_0 {ws os : Nat → Int32} : AR 0 ws os [] := ⟨rfl, fun i hi => absurd hi (Nat.not_lt_zero i)⟩
theorem srt_get : ∀ (L : List (Int × Int)), srt L → ∀ (i j : Nat) (p q : Int × Int), i < j → L[i]? = some p → L[j]? = some q → p.1 < q.1 := by
  intro L
  induction L with
  | nil => intro _ i j p q _ hp; cases hp
  | cons x L ih =>
    intro h i j p q hij hp hq
    obtain ⟨j, rfl⟩ : ∃ m, j = m + 1 := ⟨j - 1, by omega⟩
    cases i with
    | zero =>
      have e : x = p := by injection hp
      rw [← e]
      exact h.1 q (List.mem_of_getElem? (show L[j]? = some q from hq))
    | succ i => exact ih h.2 i j p q (by omega) hp hq
theorem AR_lt {c : Nat} {ws os : Nat → Int32} {L : List (Int × Int)} (h : AR c ws os L) (hs : srt L) {i j : Nat} (hij : i < j) (hj : j < c) : (ws i).toInt < (ws j).toInt := srt_get L hs i j _ _ hij (h.2 i (by omega)) (h.2 j hj)
theorem AR_new {c k : Nat} {ws os ws' os' : Nat → Int32} {L : List (Int × Int)} {w v : Int} (h : AR c ws os L) (hk : k ≤ c) (h1 : ∀ i, i < k → (ws i).toInt < w) (h2 : k < c → w < (ws k).toInt) (a1 : ∀ i, i < k → ws' i = ws i ∧ os' i = os i) (a2 : (ws' k).toInt = w ∧ (os' k).toInt = v) (a3 : ∀ i, k < i → i ≤ c → ws' i = ws (i - 1) ∧ os' i = os (i - 1)) : AR (c + 1) ws' os' (insL w v L) := by
  obtain ⟨hl, hg⟩ := h
  obtain ⟨i1, i2⟩ := ins_new (w := w) (v := v) L k (by omega) (fun i p hi hp => by rw [hg i (by omega)] at hp; injection hp with hp; rw [← hp]; exact h1 i hi) (fun p hp => by
    by_cases q : k < c
    · rw [hg k q] at hp; injection hp with hp; rw [← hp]; exact h2 q
    · rw [List.getElem?_eq_none (by omega)] at hp; cases hp)
  refine ⟨by omega, fun i hi => ?_⟩
  rw [i2 i]
  by_cases a : i < k
  · rw [if_pos a, hg i (by omega), (a1 i a).1, (a1 i a).2]
  · rw [if_neg a]
    by_cases b : i = k
    · rw [if_pos b, b, a2.1, a2.2]
    · rw [if_neg b, hg (i - 1) (by omega), (a3 i (by omega) (by omega)).1, (a3 i (by omega) (by omega)).2]
theorem AR_same {c k : Nat} {ws os ws' os' : Nat → Int32} {L : List (Int × Int)} {w v : Int} (h : AR c ws os L) (hk : k < c) (h1 : ∀ i, i < k → (ws i).toInt < w) (h2 : (ws k).toInt = w) (a1 : ∀ i, i < c → i ≠ k → ws' i = ws i ∧ os' i = os i) (a2 : (ws' k).toInt = w ∧ (os' k).toInt = v) : AR c ws' os' (insL w v L) := by
  obtain ⟨hl, hg⟩ := h
  obtain ⟨i1, i2⟩ := ins_same (w := w) (v := v) L k (os k).toInt (by rw [hg k hk, h2]) (fun i p hi hp => by rw [hg i (by omega)] at hp; injection hp with hp; rw [← hp]; exact h1 i hi)
  refine ⟨by omega, fun i hi => ?_⟩
  rw [i2 i]
  by_cases b : i = k
  · rw [if_pos b, b, a2.1, a2.2]
  · rw [if_neg b, hg i hi, (a1 i hi b).1, (a1 i hi b).2]
/-- the rules' walls: of rule r in year y W r y, or -1; what the clock becomes: B r -/
def ylL (W : Nat → Nat → Int) (B : Nat → Int) (y : Nat) : Nat → List (Int × Int)
  | 0 => []
  | r + 1 => if W r y = -1 then ylL W B y r else insL (W r y) (B r) (ylL W B y r)
def alL (W : Nat → Nat → Int) (B : Nat → Int) (m : Nat) : Nat → List (Int × Int)
  | 0 => []
  | y + 1 => alL W B m y ++ ylL W B y m
def rgY (W : Nat → Nat → Int) (b : Int) (r : Nat) (L : List (Int × Int)) : Nat → List (Int × Int)
  | 0 => L
  | y + 1 => if W r y = -1 then rgY W b r L y else insL (W r y) b (rgY W b r L y)
def rgL (W : Nat → Nat → Int) (B : Nat → Int) : Nat → List (Int × Int)
  | 0 => []
  | r + 1 => rgY W (B r) r (rgL W B r) 100
/-- each wall lies in its year -/
def YRp (W : Nat → Nat → Int) (lo : Nat → Int) : Prop := (∀ r y, W r y = -1 ∨ (lo y ≤ W r y ∧ W r y < lo (y + 1))) ∧ lo 0 = 0 ∧ ∀ y, lo y ≤ lo (y + 1)
section ZF
variable {W : Nat → Nat → Int} {B : Nat → Int} {lo : Nat → Int} {m r y u1 : Nat} {u b : Int} {L : List (Int × Int)}
theorem lo_mono (h : YRp W lo) : ∀ (d y : Nat), lo y ≤ lo (y + d) := by
  intro d
  induction d with
  | zero => intro y; exact Int.le_refl _
  | succ d ih => intro y; have h1 := ih y; have h2 := h.2.2 (y + d); show lo y ≤ lo (y + d + 1); omega
theorem lo_year (h : YRp W lo) {y z : Nat} (h1 : lo y ≤ u ∧ u < lo (y + 1)) (h2 : lo z ≤ u ∧ u < lo (z + 1)) : y = z := by
  by_cases a : y < z
  · have := lo_mono h (z - (y + 1)) (y + 1)
    rw [show y + 1 + (z - (y + 1)) = z by omega] at this
    omega
  · by_cases c : z < y
    · have := lo_mono h (y - (z + 1)) (z + 1)
      rw [show z + 1 + (y - (z + 1)) = y by omega] at this
      omega
    · omega
theorem yl_srt : ∀ r, srt (ylL W B y r) := by
  intro r
  induction r with
  | zero => exact trivial
  | succ r ih =>
    unfold ylL
    by_cases h : W r y = -1
    · rw [if_pos h]; exact ih
    · rw [if_neg h]; exact srt_ins _ ih
theorem yl_mem (h : YRp W lo) : ∀ r, ∀ q ∈ ylL W B y r, lo y ≤ q.1 ∧ q.1 < lo (y + 1) := by
  intro r
  induction r with
  | zero => intro q hq; cases hq
  | succ r ih =>
    intro q hq
    unfold ylL at hq
    by_cases c : W r y = -1
    · rw [if_pos c] at hq; exact ih q hq
    · rw [if_neg c] at hq
      rcases mem_ins _ hq with e | e
      · rw [e]
        rcases h.1 r y with f | f
        · exact absurd f c
        · exact f
      · exact ih q e
theorem srt_app : ∀ L M : List (Int × Int), srt L → srt M → (∀ p ∈ L, ∀ q ∈ M, p.1 < q.1) → srt (L ++ M) := by
  intro L
  induction L with
  | nil => intro M _ hM _; exact hM
  | cons p L ih =>
    intro M hL hM h
    refine ⟨fun q hq => ?_, ih M hL.2 hM (fun x hx => h x (List.mem_cons_of_mem _ hx))⟩
    rcases List.mem_append.mp hq with e | e
    · exact hL.1 q e
    · exact h p List.mem_cons_self q e
theorem al_mem (h : YRp W lo) : ∀ y, ∀ q ∈ alL W B m y, 0 ≤ q.1 ∧ q.1 < lo y := by
  intro y
  induction y with
  | zero => intro q hq; cases hq
  | succ y ih =>
    intro q hq
    rcases List.mem_append.mp hq with e | e
    · have h1 := ih q e; have h2 := h.2.2 y; omega
    · have h1 := yl_mem h m q e
      have h2 := lo_mono h y 0
      rw [Nat.zero_add, h.2.1] at h2
      omega
theorem al_srt (h : YRp W lo) : ∀ y, srt (alL W B m y) := by
  intro y
  induction y with
  | zero => exact trivial
  | succ y ih => exact srt_app _ _ ih (yl_srt m) (fun p hp q hq => by have h1 := al_mem h y p hp; have h2 := yl_mem h m q hq; omega)
theorem lk_app : ∀ L M : List (Int × Int), (∀ q ∈ L, u ≠ q.1) → lkL u (L ++ M) = lkL u M := by
  intro L
  induction L with
  | nil => intro M _; rfl
  | cons p L ih =>
    intro M h
    show (if u = p.1 then some p.2 else lkL u (L ++ M)) = _
    rw [if_neg (h p List.mem_cons_self)]
    exact ih M (fun q hq => h q (List.mem_cons_of_mem _ hq))
theorem lk_app2 : ∀ L M : List (Int × Int), (∀ q ∈ M, u ≠ q.1) → lkL u (L ++ M) = lkL u L := by
  intro L
  induction L with
  | nil => intro M h; exact lk_none M h
  | cons p L ih =>
    intro M h
    show (if u = p.1 then some p.2 else lkL u (L ++ M)) = if u = p.1 then some p.2 else lkL u L
    rw [ih M h]
theorem lk_al (h : YRp W lo) (hy : lo y ≤ u ∧ u < lo (y + 1)) : ∀ Y, lkL u (alL W B m Y) = if y < Y then lkL u (ylL W B y m) else none := by
  intro Y
  induction Y with
  | zero => rw [if_neg (by omega)]; rfl
  | succ Y ih =>
    show lkL u (alL W B m Y ++ ylL W B Y m) = _
    by_cases a : y = Y
    · subst a
      rw [lk_app _ _ (fun q hq => by have := al_mem h y q hq; omega), if_pos (by omega)]
    · rw [lk_app2 _ _ (fun q hq e => a (lo_year h (by rw [e] at hy; exact hy) (yl_mem h m q hq))), ih]
      by_cases c : y < Y
      · rw [if_pos c, if_pos (by omega)]
      · rw [if_neg c, if_neg (by omega)]
theorem lk_rgY (h : YRp W lo) (hy : lo y ≤ u ∧ u < lo (y + 1)) (hu : 0 ≤ u) : ∀ Y, lkL u (rgY W b r L Y) = if y < Y ∧ W r y = u then some b else lkL u L := by
  intro Y
  induction Y with
  | zero => rw [if_neg (by omega)]; rfl
  | succ Y ih =>
    unfold rgY
    by_cases c : W r Y = -1
    · rw [if_pos c, ih]
      by_cases a : y < Y ∧ W r y = u
      · rw [if_pos a, if_pos ⟨by omega, a.2⟩]
      · rw [if_neg a, if_neg (fun q => ?_)]
        by_cases e : y = Y
        · rw [e, c] at q; omega
        · exact a ⟨by omega, q.2⟩
    · rw [if_neg c, lk_ins, ih]
      rcases h.1 r Y with f | f
      · exact absurd f c
      · by_cases e : u = W r Y
        · have : y = Y := lo_year h hy (by rw [e]; exact f)
          subst this
          rw [if_pos e, if_pos ⟨by omega, e.symm⟩]
        · rw [if_neg e]
          by_cases a : y < Y ∧ W r y = u
          · rw [if_pos a, if_pos ⟨by omega, a.2⟩]
          · rw [if_neg a, if_neg (fun q => ?_)]
            by_cases e2 : y = Y
            · exact e (by rw [← e2]; exact q.2.symm)
            · exact a ⟨by omega, q.2⟩
theorem rgY_srt (hL : srt L) : ∀ Y, srt (rgY W b r L Y) := by
  intro Y
  induction Y with
  | zero => exact hL
  | succ Y ih =>
    unfold rgY
    by_cases h : W r Y = -1
    · rw [if_pos h]; exact ih
    · rw [if_neg h]; exact srt_ins _ ih
theorem rg_srt : ∀ r, srt (rgL W B r) := by
  intro r
  induction r with
  | zero => exact trivial
  | succ r ih => exact rgY_srt ih 100
theorem rgY_mem (h : YRp W lo) {T : Int} (hL : ∀ q ∈ L, 0 ≤ q.1 ∧ q.1 < T) (hT : lo 100 ≤ T) : ∀ Y, Y ≤ 100 → ∀ q ∈ rgY W b r L Y, 0 ≤ q.1 ∧ q.1 < T := by
  intro Y
  induction Y with
  | zero => intro _; exact hL
  | succ Y ih =>
    intro hY q hq
    unfold rgY at hq
    by_cases c : W r Y = -1
    · rw [if_pos c] at hq; exact ih (by omega) q hq
    · rw [if_neg c] at hq
      rcases mem_ins _ hq with e | e
      · rw [e]
        rcases h.1 r Y with f | f
        · exact absurd f c
        · have h1 := lo_mono h Y 0
          rw [Nat.zero_add, h.2.1] at h1
          have h2 := lo_mono h (100 - (Y + 1)) (Y + 1)
          rw [show Y + 1 + (100 - (Y + 1)) = 100 by omega] at h2
          show 0 ≤ W r Y ∧ W r Y < T
          omega
      · exact ih (by omega) q e
theorem rg_mem (h : YRp W lo) : ∀ r, ∀ q ∈ rgL W B r, 0 ≤ q.1 ∧ q.1 < lo 100 := by
  intro r
  induction r with
  | zero => intro q hq; cases hq
  | succ r ih => exact rgY_mem h ih (Int.le_refl _) 100 (Nat.le_refl _)
theorem lk_yl_rg (h : YRp W lo) (hy : lo y ≤ u ∧ u < lo (y + 1)) (hu : 0 ≤ u) (hy1 : y < 100) : ∀ r, lkL u (ylL W B y r) = lkL u (rgL W B r) := by
  intro r
  induction r with
  | zero => rfl
  | succ r ih =>
    show _ = lkL u (rgY W (B r) r (rgL W B r) 100)
    rw [lk_rgY h hy hu, ← ih]
    show lkL u (if W r y = -1 then ylL W B y r else insL (W r y) (B r) (ylL W B y r)) = _
    by_cases c : W r y = -1
    · rw [if_pos c, if_neg (fun q => by rw [c] at q; omega)]
    · rw [if_neg c, lk_ins]
      by_cases e : u = W r y
      · rw [if_pos e, if_pos ⟨hy1, e.symm⟩]
      · rw [if_neg e, if_neg (fun q => e q.2.symm)]
theorem year_of (h : YRp W lo) (hu : 0 ≤ u) : ∀ Y, u < lo Y → ∃ y, y < Y ∧ lo y ≤ u ∧ u < lo (y + 1) := by
  intro Y
  induction Y with
  | zero => intro q; rw [h.2.1] at q; omega
  | succ Y ih =>
    intro q
    by_cases a : u < lo Y
    · obtain ⟨y, h1, h2⟩ := ih a
      exact ⟨y, by omega, h2⟩
    · exact ⟨Y, by omega, by omega, q⟩
theorem al_rgY (h : YRp W lo) (m : Nat) {Y : Nat} (hY : Y = 100) : alL W B m Y = rgL W B m := by
  refine srt_ext _ _ (al_srt h Y) (rg_srt m) (fun u => ?_)
  by_cases a : 0 ≤ u ∧ u < lo 100
  · obtain ⟨y, h1, h2⟩ := year_of h a.1 100 a.2
    rw [lk_al h h2, if_pos (by omega)]
    exact lk_yl_rg h h2 a.1 h1 m
  · rw [lk_none _ (fun q hq e => a (by rw [e]; have := al_mem h Y q hq; rw [hY] at this; exact this)), lk_none _ (fun q hq e => a (by rw [e]; exact rg_mem h m q hq))]
/-- year by year, or rule by rule: the same list -/
theorem al_rg (h : YRp W lo) (m : Nat) : alL W B m 100 = rgL W B m := al_rgY h m rfl
end ZF
