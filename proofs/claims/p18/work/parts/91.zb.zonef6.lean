/-! ===== the state of the list, asked ===== -/
abbrev TST : Type := Nat × (Nat → Int) × (Nat → Int)
def enT (T : TST) (i : Nat) : Int := if i < T.1 then mn60 (T.2.1 (i + 1)) else 60000000
def isTT (T : TST) (m : Int) (j : Nat) : Prop := j ≤ T.1 ∧ (∀ i, 1 ≤ i → i ≤ j → T.2.1 i ≤ m) ∧ ∀ i, j < i → i ≤ T.1 → m < T.2.1 i
theorem isTT_one {T : TST} {m : Int} {j k : Nat} (h1 : isTT T m j) (h2 : isTT T m k) : j = k := by
  by_cases a : j < k
  · have p := h1.2.2 k a h2.1
    have q := h2.2.1 k (by omega) (Nat.le_refl k)
    omega
  · by_cases b : k < j
    · have p := h2.2.2 j b h1.1
      have q := h1.2.1 j (by omega) (Nat.le_refl j)
      omega
    · omega
def hitT (T : TST) (w : Int) (k : Nat) : Prop := T.2.1 k ≤ w - T.2.2 k ∧ w - T.2.2 k < enT T k
def cntU (T : TST) (w : Int) : Nat → Nat
  | 0 => 0
  | k + 1 => if T.2.1 k ≤ w - T.2.2 k ∧ w - T.2.2 k < enT T k then cntU T w k + 1 else cntU T w k
theorem cntU_le {T : TST} {w : Int} : ∀ k, cntU T w k ≤ k := by
  intro k
  induction k with
  | zero => exact Nat.le_refl _
  | succ k ih => unfold cntU; split <;> omega
theorem cntU_mono {T : TST} {w : Int} {k : Nat} : ∀ d, cntU T w k ≤ cntU T w (k + d) := by
  intro d
  induction d with
  | zero => exact Nat.le_refl _
  | succ d ih =>
    show _ ≤ (if T.2.1 (k + d) ≤ w - T.2.2 (k + d) ∧ w - T.2.2 (k + d) < enT T (k + d) then cntU T w (k + d) + 1 else cntU T w (k + d))
    split <;> omega
theorem cntU_hit {T : TST} {w : Int} {k j : Nat} (h : hitT T w k) (hj : k < j) : cntU T w k < cntU T w j := by
  have h1 := cntU_mono (T := T) (w := w) (k := k + 1) (j - (k + 1))
  rw [show k + 1 + (j - (k + 1)) = j by omega] at h1
  have h2 : cntU T w (k + 1) = cntU T w k + 1 := if_pos h
  omega
/-- the i-th moment of a wall, or -1 -/
def MoT (T : TST) (w i r : Int) : Prop := (∃ k : Nat, k ≤ T.1 ∧ hitT T w k ∧ (cntU T w k : Int) = i ∧ r = w - T.2.2 k) ∨ (¬ (0 ≤ i ∧ i < (cntU T w (T.1 + 1) : Int)) ∧ r = -1)
theorem MoT_one {T : TST} {w i r s : Int} (h1 : MoT T w i r) (h2 : MoT T w i s) : r = s := by
  rcases h1 with ⟨k, a1, a2, a3, a4⟩ | ⟨a1, a2⟩
  · rcases h2 with ⟨j, b1, b2, b3, b4⟩ | ⟨b1, b2⟩
    · have : k = j := by
        by_cases c : k < j
        · have := cntU_hit a2 c; omega
        · by_cases d : j < k
          · have := cntU_hit b2 d; omega
          · omega
      rw [a4, b4, this]
    · exfalso
      have := cntU_hit a2 (show k < T.1 + 1 by omega)
      exact b1 (by omega)
  · rcases h2 with ⟨j, b1, b2, b3, b4⟩ | ⟨b1, b2⟩
    · exfalso
      have := cntU_hit b2 (show j < T.1 + 1 by omega)
      exact a1 (by omega)
    · rw [a2, b2]
theorem MoT_sign {T : TST} {w i r D : Int} (hT : okT D T) (h : MoT T w i r) : r = -1 ∨ 0 ≤ r := by
  rcases h with ⟨k, a1, a2, a3, a4⟩ | ⟨a1, a2⟩
  · right
    have := (hT.2.1 k a1).1
    have := a2.1
    omega
  · exact Or.inl a2
/-- the class's arrays -/
theorem STR_of {T : TST} {c : Nat} {C D : Int} {ss se os : Nat → Int32} (hc : C = (c : Int)) (hT : okT D T) (hD : D ≤ 69300000) (h8 : T.1 ≤ 800) (hZ : ZR C ss os T) (hE : ENp C ss se) : c = T.1 ∧ STR c ss se os := by
  have e : c = T.1 := by have := hZ.1; omega
  refine ⟨e, by omega, ?_, fun i hi => ?_, fun i h1 h2 => ?_, fun i hi => ?_, fun i hi => ?_⟩
  · rw [(hZ.2 0 (Nat.zero_le _)).1]; exact hT.1
  · rw [(hZ.2 i (by omega)).1]; have := hT.2.1 i (by omega); omega
  · rw [(hZ.2 i (by omega)).1, (hZ.2 (i + 1) (by omega)).1]; exact hT.2.2.1 i h1 (by omega)
  · rw [(hZ.2 i (by omega)).2]; exact hT.2.2.2 i (by omega)
  · rw [hE i (by omega)]
    by_cases q : i < c
    · rw [if_pos q, if_pos (by omega)]
    · rw [if_neg q, if_neg (by omega)]
theorem isST_T {T : TST} {c : Nat} {C m : Int} {ss os : Nat → Int32} {j : Nat} (hc : c = T.1) (hZ : ZR C ss os T) (h : isST c ss m j) : isTT T m j := by
  refine ⟨by have := h.1; omega, fun i h1 h2 => ?_, fun i h1 h2 => ?_⟩
  · have := h.2.1 i h1 h2; rw [(hZ.2 i (by have := h.1; omega)).1] at this; exact this
  · have := h.2.2 i h1 (by omega); rw [(hZ.2 i h2).1] at this; exact this
theorem hitS_T {T : TST} {c : Nat} {ss se os : Nat → Int32} {w : Int} {k : Nat} (hc : c = T.1) (hZ : ZR (c : Int) ss os T) (hS : STR c ss se os) (hk : k ≤ c) : hitS ss se os w k ↔ hitT T w k := by
  unfold hitS hitT enT
  rw [(hZ.2 k (by omega)).1, (hZ.2 k (by omega)).2, hS.2.2.2.2.2 k hk]
  by_cases q : k < c
  · rw [if_pos q, if_pos (by omega), (hZ.2 (k + 1) (by omega)).1]
  · rw [if_neg q, if_neg (by omega)]
theorem cntH_T {T : TST} {c : Nat} {ss se os : Nat → Int32} {w : Int} (hc : c = T.1) (hZ : ZR (c : Int) ss os T) (hS : STR c ss se os) : ∀ k, k ≤ c + 1 → cntH ss se os w k = cntU T w k := by
  intro k
  induction k with
  | zero => intro _; rfl
  | succ k ih =>
    intro hk
    have h1 := hitS_T (w := w) (k := k) hc hZ hS (by omega)
    show (if (ss k).toInt ≤ w - (os k).toInt ∧ w - (os k).toInt < (se k).toInt then cntH ss se os w k + 1 else cntH ss se os w k) = (if T.2.1 k ≤ w - T.2.2 k ∧ w - T.2.2 k < enT T k then cntU T w k + 1 else cntU T w k)
    rw [ih (by omega)]
    by_cases q : hitT T w k
    · have q2 : (ss k).toInt ≤ w - (os k).toInt ∧ w - (os k).toInt < (se k).toInt := h1.mpr q
      have q3 : T.2.1 k ≤ w - T.2.2 k ∧ w - T.2.2 k < enT T k := q
      rw [if_pos q2, if_pos q3]
    · have q2 : ¬ ((ss k).toInt ≤ w - (os k).toInt ∧ w - (os k).toInt < (se k).toInt) := fun x => q (h1.mp x)
      have q3 : ¬ (T.2.1 k ≤ w - T.2.2 k ∧ w - T.2.2 k < enT T k) := q
      rw [if_neg q2, if_neg q3]
theorem Mo_T {T : TST} {c : Nat} {ss se os : Nat → Int32} {w i r : Int} (hc : c = T.1) (hZ : ZR (c : Int) ss os T) (hS : STR c ss se os) (h : (∃ k : Nat, k ≤ c ∧ hitS ss se os w k ∧ (cntH ss se os w k : Int) = i ∧ r = w - (os k).toInt) ∨ (¬ (0 ≤ i ∧ i < (cntH ss se os w (c + 1) : Int)) ∧ r = -1)) : MoT T w i r := by
  rcases h with ⟨k, a1, a2, a3, a4⟩ | ⟨a1, a2⟩
  · refine Or.inl ⟨k, by omega, (hitS_T hc hZ hS a1).mp a2, ?_, ?_⟩
    · rw [← cntH_T hc hZ hS k (by omega)]; exact a3
    · rw [a4, (hZ.2 k (by omega)).2]
  · refine Or.inr ⟨?_, a2⟩
    rw [← hc, ← cntH_T hc hZ hS (c + 1) (Nat.le_refl _)]
    exact a1
/-! ===== what the rules of a zone come to ===== -/
def LLz (ic md rf rto ron rat rbe rtd : Nat → Int32) (zz R : Nat) (kn : Int) : List (Int × Int) := rgL (WZ ic md rf rto ron rat zz R) (BZ rbe zz) (cntT (tdz rtd zz) kn R)
def TTz (ic md rf rto ron rat rbe rtd rm fv : Nat → Int32) (kn : Int) (zz : Nat) : TST := TKl (fv zz).toInt (LLz ic md rf rto ron rat rbe rtd zz (rm zz).toInt.toNat kn)
theorem cntT_le {to : Nat → Int32} {kn : Int} : ∀ r, cntT to kn r ≤ r := by
  intro r
  induction r with
  | zero => exact Nat.le_refl _
  | succ r ih => unfold cntT; split <;> omega
theorem rgY_bd {W : Nat → Nat → Int} {b D : Int} {r : Nat} {L : List (Int × Int)} (hL : ∀ p ∈ L, (0 ≤ p.1 ∧ p.1 ≤ D) ∧ -720 ≤ p.2 ∧ p.2 ≤ 720) (hW : ∀ y, y < 100 → W r y = -1 ∨ (0 ≤ W r y ∧ W r y ≤ D)) (hb : -720 ≤ b ∧ b ≤ 720) : ∀ Y, Y ≤ 100 → ∀ p ∈ rgY W b r L Y, (0 ≤ p.1 ∧ p.1 ≤ D) ∧ -720 ≤ p.2 ∧ p.2 ≤ 720 := by
  intro Y
  induction Y with
  | zero => intro _; exact hL
  | succ Y ih =>
    intro hY p hp
    unfold rgY at hp
    by_cases c : W r Y = -1
    · rw [if_pos c] at hp; exact ih (by omega) p hp
    · rw [if_neg c] at hp
      rcases mem_ins _ hp with e | e
      · rw [e]
        rcases hW Y (by omega) with f | f
        · exact absurd f c
        · exact ⟨f, hb⟩
      · exact ih (by omega) p e
theorem rg_bd {W : Nat → Nat → Int} {B : Nat → Int} {D : Int} {m : Nat} (h : WBp W B m D) : ∀ r, r ≤ m → ∀ p ∈ rgL W B r, (0 ≤ p.1 ∧ p.1 ≤ D) ∧ -720 ≤ p.2 ∧ p.2 ≤ 720 := by
  intro r
  induction r with
  | zero => intro _ p hp; cases hp
  | succ r ih => intro hr; exact rgY_bd (ih (by omega)) (fun y hy => h.1 r y (by omega) hy) (h.2 r (by omega)) 100 (Nat.le_refl _)
theorem WZ_bd {ic md rf rto ron rat rbe rtd : Nat → Int32} {zz R : Nat} (hP : CalP ic md) (hV : RVs ic rf rto ron rat rbe rtd zz R) : WBp (WZ ic md rf rto ron rat zz R) (BZ rbe zz) R 69300000 := by
  refine ⟨fun r y hr hy => ?_, fun r hr => ?_⟩
  · have h := hV.1 r hr
    unfold RVp at h
    unfold WZ
    rw [if_pos ⟨hr, hy⟩]
    unfold WMf
    split
    · have h1 := NW_d hP (k := 12 * y + ((ron (8 * zz + r)).toInt / 1000).toNat) (by omega) (wd := (ron (8 * zz + r)).toInt / 10 % 100) (n := (ron (8 * zz + r)).toInt % 10) (by omega)
      right; omega
    · exact Or.inl rfl
  · have h := hV.1 r hr
    unfold RVp at h
    exact h.2.2.2.2
theorem LLz_bd {ic md rf rto ron rat rbe rtd : Nat → Int32} {zz R : Nat} {kn : Int} (hP : CalP ic md) (hV : RVs ic rf rto ron rat rbe rtd zz R) : ∀ p ∈ LLz ic md rf rto ron rat rbe rtd zz R kn, (0 ≤ p.1 ∧ p.1 ≤ 69300000) ∧ -720 ≤ p.2 ∧ p.2 ≤ 720 := rg_bd (WZ_bd hP hV) _ (cntT_le R)
theorem rgY_len {W : Nat → Nat → Int} {b : Int} {r : Nat} {L : List (Int × Int)} : ∀ Y, (rgY W b r L Y).length ≤ L.length + Y := by
  intro Y
  induction Y with
  | zero => exact Nat.le_refl _
  | succ Y ih =>
    unfold rgY
    split
    · omega
    · have := ins_len (w := W r Y) (v := b) (rgY W b r L Y); omega
theorem rg_len {W : Nat → Nat → Int} {B : Nat → Int} : ∀ r, (rgL W B r).length ≤ 100 * r := by
  intro r
  induction r with
  | zero => exact Nat.le_refl _
  | succ r ih => show (rgY W (B r) r (rgL W B r) 100).length ≤ 100 * (r + 1); have := rgY_len (W := W) (b := B r) (r := r) (L := rgL W B r) 100; omega
/-- a zone's rules as they stand -/
def RZv (ic rf rto ron rat rbe rtd rm fv : Nat → Int32) (zz : Nat) : Prop := (0 ≤ (rm zz).toInt ∧ (rm zz).toInt ≤ 8) ∧ RVs ic rf rto ron rat rbe rtd zz (rm zz).toInt.toNat ∧ -720 ≤ (fv zz).toInt ∧ (fv zz).toInt ≤ 720
theorem TTz_ok {ic md rf rto ron rat rbe rtd rm fv : Nat → Int32} {zz : Nat} {kn : Int} (hP : CalP ic md) (h : RZv ic rf rto ron rat rbe rtd rm fv zz) : okT 69300000 (TTz ic md rf rto ron rat rbe rtd rm fv kn zz) ∧ (TTz ic md rf rto ron rat rbe rtd rm fv kn zz).1 ≤ 800 := by
  obtain ⟨h1, h2, h3⟩ := h
  have q := TK_ok h3 (show (0 : Int) ≤ 69300000 by decide) _ (fun p hp => ⟨(LLz_bd (kn := kn) hP h2 p hp).1.2, (LLz_bd (kn := kn) hP h2 p hp).2⟩)
  refine ⟨q.1, ?_⟩
  have q2 : (LLz ic md rf rto ron rat rbe rtd zz (rm zz).toInt.toNat kn).length ≤ 100 * cntT (tdz rtd zz) kn (rm zz).toInt.toNat := rg_len _
  have q3 := cntT_le (to := tdz rtd zz) (kn := kn) (rm zz).toInt.toNat
  have q4 := q.2
  unfold TTz
  omega
abbrev shz (f : Nat → Int32) (zz : Nat) : Nat → Int32 := fun i => f (801 * zz + i)
/-- the reference's zones: what is told stands; what is found is right -/
def ZMr (G : Gl) (E : Nat → va_E) (rf rto ron rat rbe rtd rm fv : Nat → Int32) : Prop := E 71 = aI G 5 fv ∧ E 72 = aI G 40 rf ∧ E 73 = aI G 40 rto ∧ E 74 = aI G 40 ron ∧ E 75 = aI G 40 rat ∧ E 76 = aI G 40 rbe ∧ E 77 = aI G 40 rtd ∧ E 78 = aI G 5 rm
def ZMs (G : Gl) (E : Nat → va_E) (k : Nat) (T : Nat → TST) : Prop := ∃ fz sf sp sc sw so : Nat → Int32, E 79 = aZ G 5 fz ∧ E 80 = aI G 4005 sf ∧ E 81 = aI G 4005 sp ∧ E 82 = aI G 5 sc ∧ E 83 = aI G 800 sw ∧ E 84 = aI G 800 so ∧ (∀ q, fz q = 0 ∨ fz q = 1) ∧ (∀ q, (0 : Int) ≤ (sc q).toInt ∧ (sc q).toInt ≤ 800) ∧ ∀ z, fz z = 1 → z < k ∧ ZR (sc z).toInt (shz sf z) (shz sp z) (T z)
/-- zone zz is found -/
def ZMf (G : Gl) (E : Nat → va_E) (zz : Nat) (T : TST) : Prop := ∃ sf sp sc : Nat → Int32, E 80 = aI G 4005 sf ∧ E 81 = aI G 4005 sp ∧ E 82 = aI G 5 sc ∧ ZR (sc zz).toInt (shz sf zz) (shz sp zz) T
theorem ZMr.go {G : Gl} {E E1 : Nat → va_E} {rf rto ron rat rbe rtd rm fv : Nat → Int32} (h : ZMr G E rf rto ron rat rbe rtd rm fv) (o : ∀ j, 71 ≤ j → j ≤ 78 → E1 j = E j) : ZMr G E1 rf rto ron rat rbe rtd rm fv := by
  obtain ⟨a1, a2, a3, a4, a5, a6, a7, a8⟩ := h
  exact ⟨(o 71 (by decide) (by decide)).trans a1, (o 72 (by decide) (by decide)).trans a2, (o 73 (by decide) (by decide)).trans a3, (o 74 (by decide) (by decide)).trans a4, (o 75 (by decide) (by decide)).trans a5, (o 76 (by decide) (by decide)).trans a6, (o 77 (by decide) (by decide)).trans a7, (o 78 (by decide) (by decide)).trans a8⟩
theorem ZMs.go {G : Gl} {E E1 : Nat → va_E} {k : Nat} {T : Nat → TST} (h : ZMs G E k T) (o : ∀ j, 79 ≤ j → j ≤ 84 → E1 j = E j) : ZMs G E1 k T := by
  obtain ⟨fz, sf, sp, sc, sw, so, a1, a2, a3, a4, a5, a6, h⟩ := h
  exact ⟨fz, sf, sp, sc, sw, so, (o 79 (by decide) (by decide)).trans a1, (o 80 (by decide) (by decide)).trans a2, (o 81 (by decide) (by decide)).trans a3, (o 82 (by decide) (by decide)).trans a4, (o 83 (by decide) (by decide)).trans a5, (o 84 (by decide) (by decide)).trans a6, h⟩
theorem okT_mono {T : TST} {D : Int} (h : okT D T) : ∀ (d i : Nat), 1 ≤ i → i + d ≤ T.1 → T.2.1 i ≤ T.2.1 (i + d) := by
  intro d
  induction d with
  | zero => intro i _ _; exact Int.le_refl _
  | succ d ih => intro i h1 h2; have a := ih i h1 (by omega); have b := h.2.2.1 (i + d) (by omega) (by omega); show _ ≤ T.2.1 (i + d + 1); omega
theorem okT_le {T : TST} {D : Int} (h : okT D T) {i j : Nat} (h1 : 1 ≤ i) (hij : i ≤ j) (hj : j ≤ T.1) : T.2.1 i ≤ T.2.1 j := by
  have := okT_mono h (j - i) i h1 (by omega)
  rw [show i + (j - i) = j by omega] at this
  exact this
theorem en_last {T : TST} {j : Nat} (h : ¬ j < T.1) : enT T j = 60000000 := if_neg h
theorem en_mid {T : TST} {j : Nat} (h : j < T.1) : enT T j = mn60 (T.2.1 (j + 1)) := if_pos h
/-- what asking leaves -/
def FQ (G : Gl) (ad : Nat → Nat) (E E' : Nat → va_E) (im ic md : Nat → Int32) (k : Nat) (TT : Nat → TST) : Prop := ∃ im1 : Nat → Int32, (∀ q, q ≠ 7 → im1 q = im q) ∧ MCal G ad E' im1 ic md ∧ ZMs G E' k TT ∧ ∀ j, j ≠ 68 → j ≠ 70 → (j < 79 ∨ 84 < j) → E' j = E j
theorem ZR_sh {C : Int} {sf sp sf1 sp1 : Nat → Int32} {z zz : Nat} {T : TST} (h : ZR C (shz sf z) (shz sp z) T) (h8 : T.1 ≤ 800) (hz : z ≠ zz) (o : ∀ q, (q < 801 * zz ∨ 801 * zz + 800 < q) → sf1 q = sf q ∧ sp1 q = sp q) : ZR C (shz sf1 z) (shz sp1 z) T := by
  refine ⟨h.1, fun i hi => ?_⟩
  have e := o (801 * z + i) (by omega)
  have q := h.2 i hi
  show (sf1 (801 * z + i)).toInt = _ ∧ (sp1 (801 * z + i)).toInt = _
  rw [e.1, e.2]
  exact q
theorem find_post {G : Gl} {ad : Nat → Nat} {E E' : Nat → va_E} {im ic md fz sf sp sc sw so : Nat → Int32} {k zz : Nat} {TT : Nat → TST} {T : TST} (hzk : zz < k) (hW : MCal G ad E im ic md) (h79 : E 79 = aZ G 5 fz) (h80 : E 80 = aI G 4005 sf) (h81 : E 81 = aI G 4005 sp) (h82 : E 82 = aI G 5 sc) (h83 : E 83 = aI G 800 sw) (h84 : E 84 = aI G 800 so) (hfz : ∀ q, fz q = 0 ∨ fz q = 1) (hsb : ∀ q, (0 : Int) ≤ (sc q).toInt ∧ (sc q).toInt ≤ 800) (hfd : ∀ z, fz z = 1 → z < k ∧ ZR (sc z).toInt (shz sf z) (shz sp z) (TT z)) (h8 : ∀ z, z < k → (TT z).1 ≤ 800) (hT : TT zz = T)
    (hq : (fz zz = 1 ∧ E = E') ∨ (∃ (im1 : Nat → Int32) (c : Nat) (sf1 sp1 sw1 so1 : Nat → Int32) (z1 : Int32), (∀ q, q ≠ 7 → im1 q = im q) ∧ MCal G ad E' im1 ic md ∧ E' 79 = aZ G 5 (upd fz zz 1) ∧ E' 80 = aI G 4005 sf1 ∧ E' 81 = aI G 4005 sp1 ∧ E' 82 = aI G 5 (upd sc zz z1) ∧ z1.toInt = (c : Int) ∧ E' 83 = aI G 800 sw1 ∧ E' 84 = aI G 800 so1 ∧ (∀ q, (q < 801 * zz ∨ 801 * zz + 800 < q) → sf1 q = sf q ∧ sp1 q = sp q) ∧ c ≤ 800 ∧ ZR (c : Int) (fun i => sf1 (801 * zz + i)) (fun i => sp1 (801 * zz + i)) T ∧ ∀ j, j ≠ 68 → j ≠ 70 → j ≠ 79 → j ≠ 80 → j ≠ 81 → j ≠ 82 → j ≠ 83 → j ≠ 84 → E' j = E j)) : FQ G ad E E' im ic md k TT ∧ ZMf G E' zz T := by
  rcases hq with ⟨q1, q2⟩ | ⟨im1, c, sf1, sp1, sw1, so1, z1, a1, a2, a3, a4, a5, a6, a7, a8, a9, b1, b2, b3, b4⟩
  · subst q2
    refine ⟨⟨im, fun _ _ => rfl, hW, ⟨fz, sf, sp, sc, sw, so, h79, h80, h81, h82, h83, h84, hfz, hsb, hfd⟩, fun _ _ _ _ => rfl⟩, sf, sp, sc, h80, h81, h82, ?_⟩
    rw [← hT]
    exact (hfd zz q1).2
  · refine ⟨⟨im1, a1, a2, ⟨upd fz zz 1, sf1, sp1, upd sc zz z1, sw1, so1, a3, a4, a5, a6, a8, a9, fun q => ?_, fun q => ?_, fun z hz => ?_⟩, fun j c1 c2 c3 => b4 j c1 c2 (by omega) (by omega) (by omega) (by omega) (by omega) (by omega)⟩, sf1, sp1, upd sc zz z1, a4, a5, a6, ?_⟩
    · by_cases e : q = zz
      · rw [e, upd_same]; exact Or.inr rfl
      · rw [upd_ne e]; exact hfz q
    · by_cases e : q = zz
      · rw [e, upd_same, a7]; omega
      · rw [upd_ne e]; exact hsb q
    · by_cases e : z = zz
      · subst e
        rw [upd_same, a7, hT]
        exact ⟨hzk, b3⟩
      · rw [upd_ne e] at hz
        rw [upd_ne e]
        exact ⟨(hfd z hz).1, ZR_sh (hfd z hz).2 (h8 z (hfd z hz).1) e b1⟩
    · rw [upd_same, a7]
      exact b3
theorem TK_v0 {v0 : Int} : ∀ L : List (Int × Int), (TKl v0 L).2.2 0 = v0 := by
  have K : ∀ (L : List (Int × Int)) (st : TST), st.2.2 0 = v0 → (L.foldl tkS st).2.2 0 = v0 := by
    intro L
    induction L with
    | nil => intro st h; exact h
    | cons p L ih =>
      intro st h
      refine ih (tkS st p) ?_
      unfold tkS
      split
      · show va_up st.2.2 (st.1 + 1) p.2 0 = v0
        simp [va_up, h]
      · exact h
  intro L
  exact K L (st0 v0) rfl
