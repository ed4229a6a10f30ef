/-! ===== marks: bits of longs, told one by one ===== -/
def btB (mk : Nat → Int64) (p : Nat) : Bool := (mk (p / 64)).toBitVec.getLsbD (p % 64)
def cntB (mk : Nat → Int64) : Nat → Nat
  | 0 => 0
  | n + 1 => if btB mk n = true then cntB mk n + 1 else cntB mk n
theorem pw_bit : ∀ e, e < 64 → ∀ j, j < 64 → (pw e).toBitVec.getLsbD j = decide (j = e) := by decide +kernel
theorem cB_y {mk : Nat → Int64} {n : Nat} (h : btB mk n = true) : cntB mk (n + 1) = cntB mk n + 1 := if_pos h
theorem cB_n {mk : Nat → Int64} {n : Nat} (h : ¬ btB mk n = true) : cntB mk (n + 1) = cntB mk n := if_neg h
theorem cB_mono {mk : Nat → Int64} {n : Nat} : ∀ d, cntB mk n ≤ cntB mk (n + d) := by
  intro d
  induction d with
  | zero => exact Nat.le_refl _
  | succ d ih =>
    show _ ≤ (if btB mk (n + d) = true then cntB mk (n + d) + 1 else cntB mk (n + d))
    split <;> omega
theorem cB_le {mk : Nat → Int64} {m n : Nat} (h : m ≤ n) : cntB mk m ≤ cntB mk n := by
  have := cB_mono (mk := mk) (n := m) (n - m)
  rw [show m + (n - m) = n by omega] at this
  exact this
theorem cB_skip {mk : Nat → Int64} {n : Nat} : ∀ d, (∀ p, n ≤ p → p < n + d → ¬ btB mk p = true) → cntB mk (n + d) = cntB mk n := by
  intro d
  induction d with
  | zero => intro _; rfl
  | succ d ih => intro h; exact (cB_n (h (n + d) (by omega) (by omega))).trans (ih (fun p h1 h2 => h p h1 (by omega)))
theorem cB_to {mk : Nat → Int64} {m n : Nat} (h : m ≤ n) (hn : ∀ p, m ≤ p → p < n → ¬ btB mk p = true) : cntB mk n = cntB mk m := by
  have := cB_skip (mk := mk) (n := m) (n - m) (fun p h1 h2 => hn p h1 (by omega))
  rw [show m + (n - m) = n by omega] at this
  exact this
theorem cB_sur {mk : Nat → Int64} : ∀ n i, i < cntB mk n → ∃ p, p < n ∧ btB mk p = true ∧ cntB mk p = i := by
  intro n
  induction n with
  | zero => intro i h; exact absurd h (Nat.not_lt_zero i)
  | succ n ih =>
    intro i h
    by_cases c : btB mk n = true
    · rw [cB_y c] at h
      by_cases e : i = cntB mk n
      · exact ⟨n, by omega, c, e.symm⟩
      · obtain ⟨p, h1, h2, h3⟩ := ih i (by omega)
        exact ⟨p, by omega, h2, h3⟩
    · rw [cB_n c] at h
      obtain ⟨p, h1, h2, h3⟩ := ih i h
      exact ⟨p, by omega, h2, h3⟩
/-- one mark more -/
theorem cB_mark {mk mk' : Nat → Int64} {a : Nat} (h : ∀ p, btB mk' p = true ↔ btB mk p = true ∨ p = a) : ∀ n, cntB mk' n ≤ cntB mk n + (if a < n then 1 else 0) := by
  intro n
  induction n with
  | zero => exact Nat.zero_le _
  | succ n ih =>
    by_cases c : btB mk n = true
    · rw [cB_y c, cB_y ((h n).mpr (Or.inl c))]
      split at ih <;> split <;> omega
    · rw [cB_n c]
      by_cases e : n = a
      · subst e
        rw [cB_y ((h n).mpr (Or.inr rfl))]
        rw [if_neg (Nat.lt_irrefl n)] at ih
        rw [if_pos (Nat.lt_succ_self n)]
        omega
      · rw [cB_n (fun q => ((h n).mp q).elim c e)]
        split at ih <;> split <;> omega
theorem bt_mark {mk : Nat → Int64} {a : Nat} : ∀ p, btB (vp_updL mk (a / 64) (mk (a / 64) ||| pw (a % 64))) p = true ↔ btB mk p = true ∨ p = a := by
  intro p
  unfold btB
  by_cases c : p / 64 = a / 64
  · have e : vp_updL mk (a / 64) (mk (a / 64) ||| pw (a % 64)) (p / 64) = mk (a / 64) ||| pw (a % 64) := by simp [vp_updL, c]
    rw [e, show (mk (a / 64) ||| pw (a % 64)).toBitVec = (mk (a / 64)).toBitVec ||| (pw (a % 64)).toBitVec from rfl, BitVec.getLsbD_or, pw_bit (a % 64) (by omega) (p % 64) (by omega), Bool.or_eq_true, decide_eq_true_eq, c]
    constructor
    · rintro (q | q)
      · exact Or.inl q
      · exact Or.inr (by omega)
    · rintro (q | q)
      · exact Or.inl q
      · exact Or.inr (by omega)
  · have e : vp_updL mk (a / 64) (mk (a / 64) ||| pw (a % 64)) (p / 64) = mk (p / 64) := by simp [vp_updL, c]
    rw [e]
    constructor
    · intro q; exact Or.inl q
    · rintro (q | q)
      · exact q
      · subst q; exact absurd rfl c
/-- the lowest bit of a long -/
theorem lo_ex {x : Int64} : ∀ n, n ≤ 64 → (∃ e, e < n ∧ x.toBitVec.getLsbD e = true ∧ ∀ j, j < e → x.toBitVec.getLsbD j = false) ∨ ∀ j, j < n → x.toBitVec.getLsbD j = false := by
  intro n
  induction n with
  | zero => intro _; exact Or.inr (fun j hj => absurd hj (Nat.not_lt_zero j))
  | succ n ih =>
    intro hn
    rcases ih (by omega) with ⟨e, h1, h2, h3⟩ | h
    · exact Or.inl ⟨e, by omega, h2, h3⟩
    · cases c : x.toBitVec.getLsbD n with
      | true => exact Or.inl ⟨n, by omega, c, h⟩
      | false =>
        right
        intro j hj
        by_cases e : j = n
        · rw [e]; exact c
        · exact h j (by omega)
theorem lo_0 {x : Int64} (h : ∀ j, j < 64 → x.toBitVec.getLsbD j = false) : x = 0 := by
  have e : x.toBitVec = 0#64 := BitVec.eq_of_getLsbD_eq (fun i hi => by rw [h i hi]; simp)
  exact Int64.toBitVec_inj.mp e
theorem lo_bit {x : Int64} (h : x ≠ 0) : ∃ e, e < 64 ∧ x.toBitVec.getLsbD e = true ∧ ∀ j, j < e → x.toBitVec.getLsbD j = false := by
  rcases lo_ex (x := x) 64 (Nat.le_refl _) with q | q
  · exact q
  · exact absurd (lo_0 q) h
theorem lo_and {x : Int64} {e : Nat} (he : e < 64) (h1 : x.toBitVec.getLsbD e = true) (h2 : ∀ j, j < e → x.toBitVec.getLsbD j = false) : x &&& -x = pw e := by
  apply Int64.toBitVec_inj.mp
  apply BitVec.eq_of_getLsbD_eq
  intro i hi
  rw [show (x &&& -x).toBitVec = x.toBitVec &&& -x.toBitVec from rfl, BitVec.getLsbD_and, BitVec.getLsbD_neg, pw_bit e he i hi]
  by_cases c : i = e
  · subst c
    have n1 : ¬ ∃ j, j < i ∧ x.toBitVec.getLsbD j = true := fun ⟨j, hj, q⟩ => by rw [h2 j hj] at q; cases q
    simp [h1, n1]
  · by_cases d : i < e
    · simp [h2 i d, c]
    · have n1 : ∃ j, j < i ∧ x.toBitVec.getLsbD j = true := ⟨e, by omega, h1⟩
      cases q : x.toBitVec.getLsbD i with
      | false => simp [c]
      | true => simp [n1, c, hi]
theorem lo_xor {x : Int64} {e : Nat} (he : e < 64) (h1 : x.toBitVec.getLsbD e = true) : ∀ j, j < 64 → (x ^^^ pw e).toBitVec.getLsbD j = (x.toBitVec.getLsbD j && !decide (j = e)) := by
  intro j hj
  rw [show (x ^^^ pw e).toBitVec = x.toBitVec ^^^ (pw e).toBitVec from rfl, BitVec.getLsbD_xor, pw_bit e he j hj]
  by_cases c : j = e
  · subst c; simp [h1]
  · simp [c]
theorem bt_zero {mk : Nat → Int64} {p : Nat} (h : mk (p / 64) = 0) : ¬ btB mk p = true := by
  unfold btB
  rw [h]
  simp
/-- told by rank: in order, each once -/
theorem en_rank {mk : Nat → Int64} {ls : Nat → Int32} {N : Nat} {a : Int} {P : Int → Prop} (hr : ∀ p, p < N → btB mk p = true → (ls (cntB mk p)).toInt = a + (p : Int)) (hP : ∀ m, P m ↔ ∃ p, p < N ∧ btB mk p = true ∧ m = a + (p : Int)) : isEn P (cntB mk N) (fun i => (ls i).toInt) := by
  refine ⟨fun i hi => ?_, fun i hi => ?_, fun m hm => ?_⟩
  · obtain ⟨p, p1, p2, p3⟩ := cB_sur (mk := mk) N i (by omega)
    obtain ⟨q, q1, q2, q3⟩ := cB_sur (mk := mk) N (i + 1) hi
    have e1 := hr p p1 p2
    have e2 := hr q q1 q2
    rw [p3] at e1
    rw [q3] at e2
    show (ls i).toInt < (ls (i + 1)).toInt
    rw [e1, e2]
    have : p < q := by
      apply Nat.lt_of_not_le
      intro c
      have := cB_le (mk := mk) c
      omega
    omega
  · obtain ⟨p, p1, p2, p3⟩ := cB_sur (mk := mk) N i hi
    have e1 := hr p p1 p2
    rw [p3] at e1
    exact (hP _).mpr ⟨p, p1, p2, e1⟩
  · obtain ⟨p, p1, p2, e⟩ := (hP m).mp hm
    refine ⟨cntB mk p, ?_, ?_⟩
    · have := cB_le (mk := mk) (show p + 1 ≤ N by omega)
      rw [cB_y p2] at this
      omega
    · show (ls (cntB mk p)).toInt = m
      rw [hr p p1 p2, e]
theorem dy_stepr {P0 Q Q1 Q2 : Int → Prop} {T : TST} {Y a b : Int} {d0 d1 : Nat} (h01 : d0 ≤ d1) (hY : (d1 : Int) < Y) (hp : 0 ≤ dyT T d1) (h : ∀ x, Q x ↔ P0 x ∨ dyI T Y a b d0 d1 x) (h1 : ∀ x, Q1 x ↔ Q x ∨ (x = dyT T d1 - 1 ∧ a ≤ x ∧ x ≤ b)) (h2 : ∀ x, Q2 x ↔ Q1 x ∨ (x = dyT T d1 ∧ a ≤ x ∧ x ≤ b)) : ∀ x, Q2 x ↔ P0 x ∨ dyI T Y a b d0 (d1 + 1) x := by
  have h3 : ∀ x, (Q x ∨ (x = dyT T d1 ∧ a ≤ x ∧ x ≤ b)) ↔ Q x ∨ (x = dyT T d1 ∧ a ≤ x ∧ x ≤ b) := fun x => Iff.rfl
  have h4 : ∀ x, Q2 x ↔ (Q x ∨ (x = dyT T d1 ∧ a ≤ x ∧ x ≤ b)) ∨ (x = dyT T d1 - 1 ∧ a ≤ x ∧ x ≤ b) := by
    intro x
    rw [h2 x, h1 x]
    constructor
    · rintro ((p | p) | p)
      · exact Or.inl (Or.inl p)
      · exact Or.inr p
      · exact Or.inl (Or.inr p)
    · rintro ((p | p) | p)
      · exact Or.inl (Or.inl p)
      · exact Or.inr p
      · exact Or.inl (Or.inr p)
  exact dy_step h01 hY hp h h3 h4
/-- a division that goes towards nought -/
theorem tdq {x : Int32} {a : Int} (hx : x.toInt = a - 720) (h0 : 0 ≤ a) : ∃ Q : Int, Int32.toInt (x / 1440) = Q ∧ (720 ≤ a → Q = (a - 720) / 1440) ∧ (a < 720 → Q = 0) := by
  refine ⟨_, ti_tdiv hx (show (1440 : Int32).toInt = 1440 by decide) (by decide), fun h => ?_, fun h => ?_⟩
  · exact Int.tdiv_eq_ediv_of_nonneg (by omega)
  · rw [show a - 720 = -(720 - a) by omega, Int.neg_tdiv, Int.tdiv_eq_ediv_of_nonneg (by omega)]
    omega
/-! ===== the list ===== -/
def LMs (G : Gl) (ad : Nat → Nat) (E E1 : Nat → va_E) (iq : Nat → Int32) (mk : Nat → Int64) (la : Int) (P : Nat) : Prop := ∃ iq1 ls1 : Nat → Int32, E1 45 = ob 4 (rfs ad [46, 47]) iq1 ∧ (∀ q, q ≠ 2 → iq1 q = iq q) ∧ (iq1 2).toInt = (cntB mk P : Int) ∧ E1 47 = aI G 26002 ls1 ∧ (∀ p, p < P → btB mk p = true → (ls1 (cntB mk p)).toInt = la + (p : Int)) ∧ ∀ j, j ≠ 45 → j ≠ 47 → E1 j = E j
theorem LMs.skip {G : Gl} {ad : Nat → Nat} {E E1 : Nat → va_E} {iq : Nat → Int32} {mk : Nat → Int64} {la : Int} {P P' : Nat} (h : LMs G ad E E1 iq mk la P) (hP : P ≤ P') (hn : ∀ p, P ≤ p → p < P' → ¬ btB mk p = true) : LMs G ad E E1 iq mk la P' := by
  obtain ⟨iq1, ls1, a1, a2, a3, a4, a5, a6⟩ := h
  refine ⟨iq1, ls1, a1, a2, by rw [cB_to hP hn]; exact a3, a4, fun p h1 h2 => ?_, a6⟩
  by_cases c : p < P
  · exact a5 p c h2
  · exact absurd h2 (hn p (by omega) h1)
theorem lm_bits {mk : Nat → Int64} {lf : Int64} {i q e : Nat} (he : e < 64) (hbe : lf.toBitVec.getLsbD e = true) (hbl : ∀ j, j < e → lf.toBitVec.getLsbD j = false) (hqe : q ≤ e) (h : ∀ j, j < 64 → (lf.toBitVec.getLsbD j = true ↔ btB mk (64 * i + j) = true ∧ q ≤ j)) : ∀ j, j < 64 → ((lf ^^^ pw e).toBitVec.getLsbD j = true ↔ btB mk (64 * i + j) = true ∧ e + 1 ≤ j) := by
  intro j hj
  rw [lo_xor he hbe j hj]
  constructor
  · intro z
    rw [Bool.and_eq_true] at z
    obtain ⟨z1, z2⟩ := z
    have z3 := (h j hj).mp z1
    refine ⟨z3.1, ?_⟩
    have ne : j ≠ e := by intro c; subst c; simp at z2
    by_cases c : j < e
    · rw [hbl j c] at z1; cases z1
    · omega
  · rintro ⟨z1, z2⟩
    have z3 := (h j hj).mpr ⟨z1, by omega⟩
    have ne : j ≠ e := by omega
    simp [z3, ne]
theorem lm_none {mk : Nat → Int64} {lf : Int64} {i q p : Nat} (h : ∀ j, j < 64 → (lf.toBitVec.getLsbD j = true ↔ btB mk (64 * i + j) = true ∧ q ≤ j)) (h1 : 64 * i + q ≤ p) (h2 : p < 64 * i + 64) (hb : btB mk p = true) : lf.toBitVec.getLsbD (p - 64 * i) = true := (h (p - 64 * i) (by omega)).mpr ⟨by rw [show 64 * i + (p - 64 * i) = p by omega]; exact hb, by omega⟩
theorem lm_rank {mk : Nat → Int64} {ls : Nat → Int32} {la : Int} {P e : Nat} {v : Int32} (hPe : P ≤ e) (hn : ∀ p, P ≤ p → p < e → ¬ btB mk p = true) (hb : btB mk e = true) (hv : v.toInt = la + (e : Int)) (hr : ∀ p, p < P → btB mk p = true → (ls (cntB mk p)).toInt = la + (p : Int)) : ∀ p, p < e + 1 → btB mk p = true → (upd ls (cntB mk P) v (cntB mk p)).toInt = la + (p : Int) := by
  intro p h1 h2
  by_cases c : p = e
  · subst c
    rw [cB_to hPe hn, upd_same]
    exact hv
  · by_cases d : p < P
    · have g := cB_le (mk := mk) (show p + 1 ≤ P by omega)
      rw [cB_y h2] at g
      rw [upd_ne (by omega)]
      exact hr p d h2
    · exact absurd h2 (hn p (by omega) (by omega))
/-! ===== gathering by marks ===== -/
def QMk (mk : Nat → Int64) (a x : Int) : Prop := a ≤ x ∧ btB mk (x - a).toNat = true
def QRk (mk : Nat → Int64) (a b x : Int) : Prop := QMk mk a x ∧ x ≤ b
theorem qr_ch {mk mk2 : Nat → Int64} {T : TST} {a b : Int} {lo hi : Nat} (h : ∀ x, QMk mk2 a x ↔ QMk mk a x ∨ chI T a b lo hi x) : ∀ x, QRk mk2 a b x ↔ QRk mk a b x ∨ chI T a b lo hi x := by
  intro x
  unfold QRk
  rw [h x]
  constructor
  · rintro ⟨p | p, q⟩
    · exact Or.inl ⟨p, q⟩
    · exact Or.inr p
  · rintro (p | p)
    · exact ⟨Or.inl p.1, p.2⟩
    · exact ⟨Or.inr p, p.1.2⟩
theorem qr_dy {mk mk2 : Nat → Int64} {T : TST} {Y a b : Int} {d0 d1 : Nat} (h : ∀ x, QMk mk2 a x ↔ QMk mk a x ∨ dyI T Y a b d0 d1 x) : ∀ x, QRk mk2 a b x ↔ QRk mk a b x ∨ dyI T Y a b d0 d1 x := by
  intro x
  unfold QRk
  rw [h x]
  constructor
  · rintro ⟨p | p, q⟩
    · exact Or.inl ⟨p, q⟩
    · exact Or.inr p
  · rintro (p | p)
    · exact ⟨Or.inl p.1, p.2⟩
    · exact ⟨Or.inr p, p.1.2⟩
theorem qr_pt {mk mk2 : Nat → Int64} {m a b : Int} (h : ∀ x, QMk mk2 a x ↔ QMk mk a x ∨ (x = m ∧ a ≤ x ∧ x ≤ b)) : ∀ x, QRk mk2 a b x ↔ QRk mk a b x ∨ (x = m ∧ a ≤ x ∧ x ≤ b) := by
  intro x
  unfold QRk
  rw [h x]
  constructor
  · rintro ⟨p | p, q⟩
    · exact Or.inl ⟨p, q⟩
    · exact Or.inr p
  · rintro (p | p)
    · exact ⟨Or.inl p.1, p.2⟩
    · exact ⟨Or.inr p, p.2.2⟩
theorem os_0b {Q0 Q1 Q2 : Int → Prop} {a b : Int} {TT : Nat → TST} {Y : Int} (h0 : ∀ x, ¬ Q0 x) (h1 : ∀ x, Q1 x ↔ Q0 x ∨ (x = a ∧ a ≤ x ∧ x ≤ b)) (h2 : ∀ x, Q2 x ↔ Q1 x ∨ (x = b ∧ a ≤ x ∧ x ≤ b)) : ∀ x, Q2 x ↔ isOd 0 TT Y a b x := by
  intro x
  rw [h2 x, h1 x]
  unfold isOd
  constructor
  · rintro ((p | ⟨e, q⟩) | ⟨e, q⟩)
    · exact absurd p (h0 x)
    · exact ⟨q, Or.inl e⟩
    · exact ⟨q, Or.inr (Or.inl e)⟩
  · rintro ⟨q, e | e | ⟨z, hz, -⟩⟩
    · exact Or.inl (Or.inr ⟨e, q⟩)
    · exact Or.inr ⟨e, q⟩
    · omega
/-- bits below P lie at or below b -/
def QBk (mk : Nat → Int64) (a b : Int) (P : Nat) : Prop := ∀ p, p < P → btB mk p = true → a + (p : Int) ≤ b
theorem qb_of {mk mk2 : Nat → Int64} {a b : Int} {P : Nat} {R : Int → Prop} (h : QBk mk a b P) (hR : ∀ x, R x → x ≤ b) (hm : ∀ x, QMk mk2 a x ↔ QMk mk a x ∨ R x) : QBk mk2 a b P := by
  intro p hp hb
  have q : QMk mk2 a (a + (p : Int)) := ⟨by omega, by rw [show (a + (p : Int) - a).toNat = p by omega]; exact hb⟩
  rcases (hm _).mp q with r | r
  · have := r.2
    rw [show (a + (p : Int) - a).toNat = p by omega] at this
    exact h p hp this
  · exact hR _ r
theorem en_marks {mk : Nat → Int64} {ls : Nat → Int32} {a b : Int} {P : Nat} {S : Int → Prop} (hb : QBk mk a b P) (hP : b - a < (P : Int)) (hS : ∀ x, QRk mk a b x ↔ S x) (hr : ∀ p, p < P → btB mk p = true → (ls (cntB mk p)).toInt = a + (p : Int)) : isEn S (cntB mk P) (fun i => (ls i).toInt) := by
  refine en_rank hr (fun m => ?_)
  rw [← hS m]
  unfold QRk QMk
  constructor
  · rintro ⟨⟨h1, h2⟩, h3⟩
    exact ⟨(m - a).toNat, by omega, h2, by omega⟩
  · rintro ⟨p, h1, h2, h3⟩
    have h4 := hb p h1 h2
    refine ⟨⟨by omega, ?_⟩, by omega⟩
    rw [show (m - a).toNat = p by omega]
    exact h2
/-- what is kept from call to call -/
def OdI (k : Nat) (TT : Nat → TST) (Y : Int) (iq ls : Nat → Int32) : Prop := iq 5 = 1 → okOD (iq 3).toInt (iq 4).toInt ∧ ∃ n0 : Nat, (iq 2).toInt = (n0 : Int) ∧ n0 ≤ 26002 ∧ isEn (isOd k TT Y (iq 3).toInt (iq 4).toInt) n0 (fun i => (ls i).toInt)
theorem YS_pos {ic md : Nat → Int32} (hP : CalP ic md) : 1 ≤ YSf md (ic 4).toInt (ic 5).toInt 100 := by
  have := FK_mono hP (show 0 ≤ 1200 by decide)
  rw [FK_0 hP, FK_end hP] at this
  omega
