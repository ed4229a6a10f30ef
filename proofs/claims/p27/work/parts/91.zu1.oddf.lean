/-! ===== odd moments: a set, and how it is told in order ===== -/
def isEn (P : Int → Prop) (n : Nat) (f : Nat → Int) : Prop := (∀ i, i + 1 < n → f i < f (i + 1)) ∧ (∀ i, i < n → P (f i)) ∧ ∀ m, P m → ∃ i, i < n ∧ f i = m
theorem en_lt {P : Int → Prop} {n : Nat} {f : Nat → Int} (h : isEn P n f) : ∀ (d i : Nat), i + d + 1 < n → f i < f (i + d + 1) := by
  intro d
  induction d with
  | zero => intro i hi; exact h.1 i hi
  | succ d ih => intro i hi; have a := ih i (by omega); have b := h.1 (i + d + 1) (by omega); show f i < f (i + d + 1 + 1); omega
theorem en_mono {P : Int → Prop} {n : Nat} {f : Nat → Int} (h : isEn P n f) {i j : Nat} (hij : i < j) (hj : j < n) : f i < f j := by
  have := en_lt h (j - i - 1) i (by omega)
  rw [show i + (j - i - 1) + 1 = j by omega] at this
  exact this
theorem en_agree {P : Int → Prop} {n n' : Nat} {f f' : Nat → Int} (h : isEn P n f) (g : isEn P n' f') : ∀ N i, i < N → i < n → i < n' → f i = f' i := by
  intro N
  induction N with
  | zero => intro i hi; omega
  | succ N ih =>
    intro i hi h1 h2
    have A : f' i ≤ f i := by
      obtain ⟨j, hj, ej⟩ := g.2.2 (f i) (h.2.1 i h1)
      by_cases c : j < i
      · have e := ih j (by omega) (by omega) hj
        have := en_mono h c h1
        omega
      · rcases (show i = j ∨ i < j by omega) with c2 | c2
        · subst c2; omega
        · have := en_mono g c2 hj; omega
    have B : f i ≤ f' i := by
      obtain ⟨j, hj, ej⟩ := h.2.2 (f' i) (g.2.1 i h2)
      by_cases c : j < i
      · have e := ih j (by omega) hj (by omega)
        have := en_mono g c h2
        omega
      · rcases (show i = j ∨ i < j by omega) with c2 | c2
        · subst c2; omega
        · have := en_mono h c2 hj; omega
    omega
theorem en_len {P : Int → Prop} {n n' : Nat} {f f' : Nat → Int} (h : isEn P n f) (g : isEn P n' f') : n = n' := by
  rcases Nat.lt_trichotomy n n' with c | c | c
  · obtain ⟨j, hj, ej⟩ := h.2.2 (f' n) (g.2.1 n c)
    have e := en_agree h g (j + 1) j (by omega) hj (by omega)
    have := en_mono g hj c
    omega
  · exact c
  · obtain ⟨j, hj, ej⟩ := g.2.2 (f n') (h.2.1 n' c)
    have e := en_agree h g (j + 1) j (by omega) (by omega) hj
    have := en_mono h hj c
    omega
theorem en_congr {P Q : Int → Prop} {n : Nat} {f g : Nat → Int} (h : isEn P n f) (hP : ∀ m, P m ↔ Q m) (hf : ∀ i, i < n → f i = g i) : isEn Q n g := by
  refine ⟨fun i hi => ?_, fun i hi => ?_, fun m hm => ?_⟩
  · rw [← hf i (by omega), ← hf (i + 1) hi]; exact h.1 i hi
  · rw [← hf i hi]; exact (hP _).mp (h.2.1 i hi)
  · obtain ⟨i, hi, e⟩ := h.2.2 m ((hP m).mpr hm)
    exact ⟨i, hi, by rw [← hf i hi]; exact e⟩
/-- the first moment of day d, or -1 -/
def dyT (T : TST) (d : Nat) : Int := ffT T (1440 * (d : Int)) (1440 * (d : Int) + 1439) (T.1 + 1)
def chO (T : TST) (m : Int) : Prop := ∃ i, 1 ≤ i ∧ i ≤ T.1 ∧ (m = T.2.1 i - 1 ∨ m = T.2.1 i ∨ m = T.2.1 i + 1)
def dyO (Y : Int) (T : TST) (m : Int) : Prop := ∃ d : Nat, (d : Int) < Y ∧ 0 ≤ dyT T d ∧ (m = dyT T d ∨ m = dyT T d - 1)
def isOd (k : Nat) (TT : Nat → TST) (Y a b m : Int) : Prop := (a ≤ m ∧ m ≤ b) ∧ (m = a ∨ m = b ∨ ∃ z, z < k ∧ (chO (TT z) m ∨ dyO Y (TT z) m))
def okOD (a b : Int) : Prop := (0 ≤ a ∧ a < 60000000) ∧ (0 ≤ b ∧ b < 60000000) ∧ a ≤ b ∧ b - a ≤ 2000000
def ODp (k : Nat) (TT : Nat → TST) (Y a b r : Int) : Prop := (¬ okOD a b ∧ r = -1) ∨ (okOD a b ∧ ∃ (n : Nat) (f : Nat → Int), isEn (isOd k TT Y a b) n f ∧ r = (n : Int))
def OIp (k : Nat) (TT : Nat → TST) (Y a b i r : Int) : Prop := (¬ okOD a b ∧ r = -1) ∨ (okOD a b ∧ ∃ (n : Nat) (f : Nat → Int), isEn (isOd k TT Y a b) n f ∧ ((0 ≤ i ∧ i < (n : Int) ∧ r = f i.toNat) ∨ (¬ (0 ≤ i ∧ i < (n : Int)) ∧ r = -1)))
theorem ODp_one {k : Nat} {TT : Nat → TST} {Y a b r s : Int} (h1 : ODp k TT Y a b r) (h2 : ODp k TT Y a b s) : r = s := by
  rcases h1 with ⟨p, q⟩ | ⟨p, n, f, h, q⟩
  · rcases h2 with ⟨p2, q2⟩ | ⟨p2, -⟩
    · omega
    · exact absurd p2 p
  · rcases h2 with ⟨p2, q2⟩ | ⟨p2, n2, f2, g, q2⟩
    · exact absurd p p2
    · rw [q, q2, en_len h g]
theorem OIp_one {k : Nat} {TT : Nat → TST} {Y a b i r s : Int} (h1 : OIp k TT Y a b i r) (h2 : OIp k TT Y a b i s) : r = s := by
  rcases h1 with ⟨p, q⟩ | ⟨p, n, f, h, q⟩
  · rcases h2 with ⟨p2, q2⟩ | ⟨p2, -⟩
    · omega
    · exact absurd p2 p
  · rcases h2 with ⟨p2, q2⟩ | ⟨p2, n2, f2, g, q2⟩
    · exact absurd p p2
    · have e := en_len h g
      subst e
      rcases q with ⟨q1, q2', q3⟩ | ⟨q1, q3⟩
      · rcases q2 with ⟨t1, t2, t3⟩ | ⟨t1, t3⟩
        · rw [q3, t3]; exact en_agree h g (i.toNat + 1) i.toNat (by omega) (by omega) (by omega)
        · exact absurd ⟨q1, q2'⟩ t1
      · rcases q2 with ⟨t1, t2, t3⟩ | ⟨t1, t3⟩
        · exact absurd ⟨t1, t2⟩ q1
        · rw [q3, t3]
theorem ff_rng {T : TST} {w to D : Int} (hT : okT D T) : ∀ n, n ≤ T.1 + 1 → ffT T w to n = -1 ∨ (w - 720 ≤ ffT T w to n ∧ ffT T w to n ≤ to + 720) := by
  intro n
  induction n with
  | zero => intro _; exact Or.inl rfl
  | succ n ih =>
    intro hn
    have h1 := hT.2.2.2 n (by omega)
    have h2 := ih (by omega)
    unfold ffT
    split
    · split
      · rename_i q
        right
        unfold mxI at q ⊢
        split at q <;> split <;> omega
      · exact Or.inl rfl
    · exact h2
theorem dy_rng {T : TST} {D : Int} {d : Nat} (hT : okT D T) : dyT T d = -1 ∨ (0 ≤ dyT T d ∧ 1440 * (d : Int) - 720 ≤ dyT T d ∧ dyT T d ≤ 1440 * (d : Int) + 2159 ∧ dyT T d < 60000000) := by
  unfold dyT
  have a := ff_rng (w := 1440 * (d : Int)) (to := 1440 * (d : Int) + 1439) hT (T.1 + 1) (Nat.le_refl _)
  have b := ff_sign (w := 1440 * (d : Int)) (to := 1440 * (d : Int) + 1439) hT (T.1 + 1) (Nat.le_refl _)
  have c := ff_60 (T := T) (w := 1440 * (d : Int)) (to := 1440 * (d : Int) + 1439) (T.1 + 1)
  omega
/-! ===== an array's members ===== -/
def inS (o : Nat → Int32) (n : Nat) (m : Int) : Prop := ∃ i, i < n ∧ (o i).toInt = m
theorem inS_push {o : Nat → Int32} {n : Nat} {x : Int32} {m : Int} : inS (upd o n x) (n + 1) m ↔ inS o n m ∨ m = x.toInt := by
  constructor
  · rintro ⟨i, hi, e⟩
    by_cases c : i = n
    · rw [c, upd_same] at e; exact Or.inr e.symm
    · rw [upd_ne c] at e; exact Or.inl ⟨i, by omega, e⟩
  · rintro (⟨i, hi, e⟩ | e)
    · exact ⟨i, by omega, by rw [upd_ne (by omega)]; exact e⟩
    · exact ⟨n, by omega, by rw [upd_same]; exact e.symm⟩
/-- two places change their contents -/
theorem inS_swap {o : Nat → Int32} {n k c : Nat} (hk : k < n) (hc : c < n) {m : Int} : inS (upd (upd o c (o k)) k (o c)) n m ↔ inS o n m := by
  constructor
  · rintro ⟨i, hi, e⟩
    by_cases c1 : i = k
    · rw [c1, upd_same] at e; exact ⟨c, hc, e⟩
    · rw [upd_ne c1] at e
      by_cases c2 : i = c
      · rw [c2, upd_same] at e; exact ⟨k, hk, e⟩
      · rw [upd_ne c2] at e; exact ⟨i, hi, e⟩
  · rintro ⟨i, hi, e⟩
    by_cases c1 : i = k
    · subst c1
      by_cases c2 : i = c
      · subst c2; exact ⟨i, hi, by rw [upd_same]; exact e⟩
      · exact ⟨c, hc, by rw [upd_ne (fun q => c2 q.symm), upd_same]; exact e⟩
    · by_cases c2 : i = c
      · subst c2; exact ⟨k, hk, by rw [upd_same]; exact e⟩
      · exact ⟨i, hi, by rw [upd_ne c1, upd_ne c2]; exact e⟩
/-! ===== a heap ===== -/
def hpO (o : Nat → Int32) (lo n x : Nat) : Prop := ∀ i, lo ≤ i → i ≠ x → (2 * i + 1 < n → (o (2 * i + 1)).toInt ≤ (o i).toInt) ∧ (2 * i + 2 < n → (o (2 * i + 2)).toInt ≤ (o i).toInt)
def hpG (o : Nat → Int32) (lo n x : Nat) : Prop := ∀ p, lo ≤ p → (x = 2 * p + 1 ∨ x = 2 * p + 2) → (2 * x + 1 < n → (o (2 * x + 1)).toInt ≤ (o p).toInt) ∧ (2 * x + 2 < n → (o (2 * x + 2)).toInt ≤ (o p).toInt)
def hpF (o : Nat → Int32) (lo n : Nat) : Prop := ∀ i, lo ≤ i → (2 * i + 1 < n → (o (2 * i + 1)).toInt ≤ (o i).toInt) ∧ (2 * i + 2 < n → (o (2 * i + 2)).toInt ≤ (o i).toInt)
theorem hp_done {o : Nat → Int32} {lo n x : Nat} (h : hpO o lo n x) (h1 : 2 * x + 1 < n → (o (2 * x + 1)).toInt ≤ (o x).toInt) (h2 : 2 * x + 2 < n → (o (2 * x + 2)).toInt ≤ (o x).toInt) : hpF o lo n := by
  intro i hi
  by_cases c : i = x
  · rw [c]; exact ⟨h1, h2⟩
  · exact h i hi c
/-- the greater child c goes up -/
theorem hp_step {o : Nat → Int32} {lo n x c : Nat} (hlo : lo ≤ x) (h : hpO o lo n x) (hg : hpG o lo n x) (hc : c = 2 * x + 1 ∨ c = 2 * x + 2) (hcn : c < n) (h1 : 2 * x + 1 < n → (o (2 * x + 1)).toInt ≤ (o c).toInt) (h2 : 2 * x + 2 < n → (o (2 * x + 2)).toInt ≤ (o c).toInt) (hx : (o x).toInt ≤ (o c).toInt) : hpO (upd (upd o c (o x)) x (o c)) lo n c ∧ hpG (upd (upd o c (o x)) x (o c)) lo n c := by
  have hne : x ≠ c := by omega
  have ex : (upd (upd o c (o x)) x (o c)) x = o c := upd_same
  have ec : (upd (upd o c (o x)) x (o c)) c = o x := by rw [upd_ne (fun q => hne q.symm), upd_same]
  have eo : ∀ j, j ≠ x → j ≠ c → (upd (upd o c (o x)) x (o c)) j = o j := fun j a b => by rw [upd_ne a, upd_ne b]
  refine ⟨fun i hi hic => ?_, fun p hp hpc => ?_⟩
  · by_cases a : i = x
    · subst a
      rw [ex]
      refine ⟨fun q => ?_, fun q => ?_⟩
      · by_cases b : 2 * i + 1 = c
        · rw [b, ec]; exact hx
        · rw [eo _ (by omega) b]; exact h1 q
      · by_cases b : 2 * i + 2 = c
        · rw [b, ec]; exact hx
        · rw [eo _ (by omega) b]; exact h2 q
    · rw [eo i a hic]
      refine ⟨fun q => ?_, fun q => ?_⟩
      · by_cases b : 2 * i + 1 = x
        · rw [b, ex]
          have g := hg i hi (Or.inl b.symm)
          rcases hc with r | r
          · rw [r]; exact g.1 (by omega)
          · rw [r]; exact g.2 (by omega)
        · by_cases b2 : 2 * i + 1 = c
          · exfalso; omega
          · rw [eo _ b b2]; exact (h i hi a).1 q
      · by_cases b : 2 * i + 2 = x
        · rw [b, ex]
          have g := hg i hi (Or.inr b.symm)
          rcases hc with r | r
          · rw [r]; exact g.1 (by omega)
          · rw [r]; exact g.2 (by omega)
        · by_cases b2 : 2 * i + 2 = c
          · exfalso; omega
          · rw [eo _ b b2]; exact (h i hi a).2 q
  · have e : p = x := by omega
    subst e
    rw [ex]
    have hcl : lo ≤ c := by omega
    have g := h c hcl (fun q => hne q.symm)
    refine ⟨fun q => ?_, fun q => ?_⟩
    · rw [eo _ (by omega) (by omega)]; exact g.1 q
    · rw [eo _ (by omega) (by omega)]; exact g.2 q
theorem hp_max {o : Nat → Int32} {n : Nat} (h : hpF o 0 n) : ∀ N i, i < N → i < n → (o i).toInt ≤ (o 0).toInt := by
  intro N
  induction N with
  | zero => intro i hi; omega
  | succ N ih =>
    intro i hi hn
    by_cases c : i = 0
    · rw [c]; exact Int.le_refl _
    · have a := ih ((i - 1) / 2) (by omega) (by omega)
      have b := h ((i - 1) / 2) (Nat.zero_le _)
      by_cases e : i % 2 = 1
      · have q := b.1 (by omega)
        rw [show 2 * ((i - 1) / 2) + 1 = i by omega] at q
        omega
      · have q := b.2 (by omega)
        rw [show 2 * ((i - 1) / 2) + 2 = i by omega] at q
        omega
/-- sorted behind k, nothing ahead is greater, a heap ahead -/
def hsrt (o : Nat → Int32) (k M : Nat) : Prop := (∀ i j, k < i → i ≤ j → j < M → (o i).toInt ≤ (o j).toInt) ∧ ∀ i j, i ≤ k → k < j → j < M → (o i).toInt ≤ (o j).toInt
/-- the greatest goes to its place; then the heap is mended (o2) -/
theorem hsr_step {o o2 : Nat → Int32} {k M : Nat} (hk : 0 < k) (hM : k < M) (hp : hpF o 0 (k + 1)) (hs : hsrt o k M) (hin : ∀ m, inS o2 k m ↔ inS (upd (upd o 0 (o k)) k (o 0)) k m) (ho : ∀ j, k ≤ j → o2 j = (upd (upd o 0 (o k)) k (o 0)) j) : hsrt o2 (k - 1) M := by
  have hmax := hp_max hp
  have ek : o2 k = o 0 := by rw [ho k (Nat.le_refl k), upd_same]
  have eh : ∀ j, k < j → o2 j = o j := fun j hj => by rw [ho j (by omega), upd_ne (by omega), upd_ne (by omega)]
  have hpre : ∀ i, i < k → ∃ q, q ≤ k ∧ (o2 i).toInt = (o q).toInt := by
    intro i hi
    obtain ⟨q, hq, e⟩ := (hin (o2 i).toInt).mp ⟨i, hi, rfl⟩
    by_cases c : q = 0
    · rw [c, upd_ne (by omega), upd_same] at e; exact ⟨k, Nat.le_refl k, e.symm⟩
    · rw [upd_ne (by omega), upd_ne c] at e; exact ⟨q, by omega, e.symm⟩
  refine ⟨fun i j h1 h2 h3 => ?_, fun i j h1 h2 h3 => ?_⟩
  · by_cases c : i = k
    · rw [c, ek]
      by_cases d : j = k
      · rw [d, ek]; exact Int.le_refl _
      · rw [eh j (by omega)]; exact hs.2 0 j (by omega) (by omega) h3
    · rw [eh i (by omega), eh j (by omega)]; exact hs.1 i j (by omega) h2 h3
  · obtain ⟨q, hq, e⟩ := hpre i (by omega)
    rw [e]
    by_cases d : j = k
    · rw [d, ek]; exact hmax (q + 1) q (by omega) (by omega)
    · rw [eh j (by omega)]; exact hs.2 q j hq (by omega) h3
theorem hp_pre {o : Nat → Int32} {k : Nat} (hp : hpF o 0 (k + 1)) (hk : 0 < k) : hpO (upd (upd o 0 (o k)) k (o 0)) 0 k 0 ∧ hpG (upd (upd o 0 (o k)) k (o 0)) 0 k 0 := by
  refine ⟨fun i _ hi => ?_, fun p _ hp => by omega⟩
  have e : ∀ j, j ≠ 0 → j ≠ k → (upd (upd o 0 (o k)) k (o 0)) j = o j := fun j a b => by rw [upd_ne b, upd_ne a]
  have h := hp i (Nat.zero_le _)
  refine ⟨fun q => ?_, fun q => ?_⟩
  · rw [e _ (by omega) (by omega), e i hi (by omega)]; exact h.1 (by omega)
  · rw [e _ (by omega) (by omega), e i hi (by omega)]; exact h.2 (by omega)
theorem inS_swap0 {o : Nat → Int32} {k M : Nat} (hk : k < M) {m : Int} : inS (upd (upd o 0 (o k)) k (o 0)) M m ↔ inS o M m := inS_swap hk (by omega)
/-- members ahead and behind -/
theorem inS_ext {o o2 : Nat → Int32} {k M : Nat} (hkM : k ≤ M) (hin : ∀ m, inS o2 k m ↔ inS o k m) (ho : ∀ j, k ≤ j → o2 j = o j) (m : Int) : inS o2 M m ↔ inS o M m := by
  constructor
  · rintro ⟨i, hi, e⟩
    by_cases c : i < k
    · obtain ⟨q, hq, e2⟩ := (hin m).mp ⟨i, c, e⟩
      exact ⟨q, by omega, e2⟩
    · rw [ho i (by omega)] at e; exact ⟨i, hi, e⟩
  · rintro ⟨i, hi, e⟩
    by_cases c : i < k
    · obtain ⟨q, hq, e2⟩ := (hin m).mpr ⟨i, c, e⟩
      exact ⟨q, by omega, e2⟩
    · exact ⟨i, hi, by rw [ho i (by omega)]; exact e⟩
/-! ===== gathering, step by step ===== -/
theorem os_0 {Q1 Q2 : Int → Prop} {o : Nat → Int32} {a b : Int} {TT : Nat → TST} {Y : Int} (hab : a ≤ b) (h1 : ∀ x, Q1 x ↔ inS o 0 x ∨ (x = a ∧ a ≤ x ∧ x ≤ b)) (h2 : ∀ x, Q2 x ↔ Q1 x ∨ (x = b ∧ a ≤ x ∧ x ≤ b)) : ∀ x, Q2 x ↔ isOd 0 TT Y a b x := by
  intro x
  rw [h2 x, h1 x]
  unfold isOd
  constructor
  · rintro ((⟨i, hi, -⟩ | ⟨e, q⟩) | ⟨e, q⟩)
    · omega
    · exact ⟨q, Or.inl e⟩
    · exact ⟨q, Or.inr (Or.inl e)⟩
  · rintro ⟨q, e | e | ⟨z, hz, -⟩⟩
    · exact Or.inl (Or.inr ⟨e, q⟩)
    · exact Or.inr ⟨e, q⟩
    · omega
def chI (T : TST) (a b : Int) (lo j : Nat) (x : Int) : Prop := (a ≤ x ∧ x ≤ b) ∧ ∃ i, lo ≤ i ∧ i < j ∧ (x = T.2.1 i - 1 ∨ x = T.2.1 i ∨ x = T.2.1 i + 1)
theorem ch_step {P0 Q Q1 Q2 Q3 : Int → Prop} {T : TST} {a b : Int} {lo j : Nat} (hj : lo ≤ j) (h : ∀ x, Q x ↔ P0 x ∨ chI T a b lo j x) (h1 : ∀ x, Q1 x ↔ Q x ∨ (x = T.2.1 j - 1 ∧ a ≤ x ∧ x ≤ b)) (h2 : ∀ x, Q2 x ↔ Q1 x ∨ (x = T.2.1 j ∧ a ≤ x ∧ x ≤ b)) (h3 : ∀ x, Q3 x ↔ Q2 x ∨ (x = T.2.1 j + 1 ∧ a ≤ x ∧ x ≤ b)) : ∀ x, Q3 x ↔ P0 x ∨ chI T a b lo (j + 1) x := by
  intro x
  rw [h3 x, h2 x, h1 x, h x]
  unfold chI
  constructor
  · rintro ((((p | ⟨q, i, i1, i2, e⟩) | ⟨e, q⟩) | ⟨e, q⟩) | ⟨e, q⟩)
    · exact Or.inl p
    · exact Or.inr ⟨q, i, i1, by omega, e⟩
    · exact Or.inr ⟨q, j, hj, by omega, Or.inl e⟩
    · exact Or.inr ⟨q, j, hj, by omega, Or.inr (Or.inl e)⟩
    · exact Or.inr ⟨q, j, hj, by omega, Or.inr (Or.inr e)⟩
  · rintro (p | ⟨q, i, i1, i2, e⟩)
    · exact Or.inl (Or.inl (Or.inl (Or.inl p)))
    · by_cases c : i = j
      · subst c
        rcases e with e | e | e
        · exact Or.inl (Or.inl (Or.inr ⟨e, q⟩))
        · exact Or.inl (Or.inr ⟨e, q⟩)
        · exact Or.inr ⟨e, q⟩
      · exact Or.inl (Or.inl (Or.inl (Or.inr ⟨q, i, i1, by omega, e⟩)))
def dyI (T : TST) (Y a b : Int) (d0 d1 : Nat) (x : Int) : Prop := (a ≤ x ∧ x ≤ b) ∧ ∃ d : Nat, d0 ≤ d ∧ d < d1 ∧ (d : Int) < Y ∧ 0 ≤ dyT T d ∧ (x = dyT T d ∨ x = dyT T d - 1)
theorem dy_step {P0 Q Q1 Q2 : Int → Prop} {T : TST} {Y a b : Int} {d0 d1 : Nat} (h01 : d0 ≤ d1) (hY : (d1 : Int) < Y) (hp : 0 ≤ dyT T d1) (h : ∀ x, Q x ↔ P0 x ∨ dyI T Y a b d0 d1 x) (h1 : ∀ x, Q1 x ↔ Q x ∨ (x = dyT T d1 ∧ a ≤ x ∧ x ≤ b)) (h2 : ∀ x, Q2 x ↔ Q1 x ∨ (x = dyT T d1 - 1 ∧ a ≤ x ∧ x ≤ b)) : ∀ x, Q2 x ↔ P0 x ∨ dyI T Y a b d0 (d1 + 1) x := by
  intro x
  rw [h2 x, h1 x, h x]
  unfold dyI
  constructor
  · rintro (((p | ⟨q, d, i1, i2, r⟩) | ⟨e, q⟩) | ⟨e, q⟩)
    · exact Or.inl p
    · exact Or.inr ⟨q, d, i1, by omega, r⟩
    · exact Or.inr ⟨q, d1, h01, by omega, hY, hp, Or.inl e⟩
    · exact Or.inr ⟨q, d1, h01, by omega, hY, hp, Or.inr e⟩
  · rintro (p | ⟨q, d, i1, i2, i3, i4, e⟩)
    · exact Or.inl (Or.inl (Or.inl p))
    · by_cases c : d = d1
      · subst c
        rcases e with e | e
        · exact Or.inl (Or.inr ⟨e, q⟩)
        · exact Or.inr ⟨e, q⟩
      · exact Or.inl (Or.inl (Or.inr ⟨q, d, i1, by omega, i3, i4, e⟩))
theorem dy_none {P0 Q : Int → Prop} {T : TST} {Y a b : Int} {d0 d1 : Nat} (hn : ¬ 0 ≤ dyT T d1) (h : ∀ x, Q x ↔ P0 x ∨ dyI T Y a b d0 d1 x) : ∀ x, Q x ↔ P0 x ∨ dyI T Y a b d0 (d1 + 1) x := by
  intro x
  rw [h x]
  unfold dyI
  constructor
  · rintro (p | ⟨q, d, i1, i2, r⟩)
    · exact Or.inl p
    · exact Or.inr ⟨q, d, i1, by omega, r⟩
  · rintro (p | ⟨q, d, i1, i2, i3, i4, e⟩)
    · exact Or.inl p
    · by_cases c : d = d1
      · subst c; exact absurd i4 hn
      · exact Or.inr ⟨q, d, i1, by omega, i3, i4, e⟩
/-- one more zone: its changes, its days; what is left out lies at the ends or beyond -/
theorem os_step {Q0 Q1 Q2 : Int → Prop} {TT : Nat → TST} {Y a b D : Int} {z lo hi d0 d1 : Nat} (hT : okT D (TT z)) (hl1 : 1 ≤ lo) (hhc : hi ≤ (TT z).1 + 1) (hlo : ∀ i, 1 ≤ i → i < lo → (TT z).2.1 i ≤ a - 1) (hhi : ∀ i, hi ≤ i → i ≤ (TT z).1 → b < (TT z).2.1 i) (h0 : ∀ x, Q0 x ↔ isOd z TT Y a b x) (h1 : ∀ x, Q1 x ↔ Q0 x ∨ chI (TT z) a b lo hi x) (h2 : ∀ x, Q2 x ↔ Q1 x ∨ dyI (TT z) Y a b d0 d1 x) (hd0 : 1440 * (d0 : Int) + 719 < a ∨ d0 = 0) (hd1 : b + 720 < 1440 * (d1 : Int) ∨ Y ≤ (d1 : Int)) : ∀ x, Q2 x ↔ isOd (z + 1) TT Y a b x := by
  intro x
  rw [h2 x, h1 x, h0 x]
  unfold isOd chI dyI
  constructor
  · rintro ((⟨q, e | e | ⟨y, hy, r⟩⟩ | ⟨q, i, i1, i2, e⟩) | ⟨q, d, i1, i2, i3, i4, e⟩)
    · exact ⟨q, Or.inl e⟩
    · exact ⟨q, Or.inr (Or.inl e)⟩
    · exact ⟨q, Or.inr (Or.inr ⟨y, by omega, r⟩)⟩
    · exact ⟨q, Or.inr (Or.inr ⟨z, by omega, Or.inl ⟨i, by omega, by omega, e⟩⟩)⟩
    · exact ⟨q, Or.inr (Or.inr ⟨z, by omega, Or.inr ⟨d, i3, i4, e⟩⟩)⟩
  · rintro ⟨q, e | e | ⟨y, hy, r⟩⟩
    · exact Or.inl (Or.inl ⟨q, Or.inl e⟩)
    · exact Or.inl (Or.inl ⟨q, Or.inr (Or.inl e)⟩)
    · by_cases c : y = z
      · subst c
        rcases r with ⟨i, i1, i2, e⟩ | ⟨d, i3, i4, e⟩
        · by_cases g1 : i < lo
          · have w := hlo i i1 g1
            exact Or.inl (Or.inl ⟨q, Or.inl (by omega)⟩)
          · by_cases g2 : hi ≤ i
            · have w := hhi i g2 i2
              exact Or.inl (Or.inl ⟨q, Or.inr (Or.inl (by omega))⟩)
            · exact Or.inl (Or.inr ⟨q, i, by omega, by omega, e⟩)
        · have g := dy_rng (d := d) hT
          by_cases g1 : d < d0
          · exfalso; omega
          · by_cases g2 : d1 ≤ d
            · exact Or.inl (Or.inl ⟨q, Or.inr (Or.inl (by omega))⟩)
            · exact Or.inr ⟨q, d, by omega, by omega, i3, i4, e⟩
      · exact Or.inl (Or.inl ⟨q, Or.inr (Or.inr ⟨y, by omega, r⟩)⟩)
/-! ===== sorted, each once ===== -/
theorem dd_en {o f : Nat → Int32} {L M : Nat} (hs : ∀ i, i + 1 < L → (f i).toInt < (f (i + 1)).toInt) (hi : ∀ m, inS f L m ↔ inS o M m) {P : Int → Prop} (hP : ∀ m, inS o M m ↔ P m) : isEn P L (fun i => (f i).toInt) := ⟨hs, fun i h => (hP _).mp ((hi _).mp ⟨i, h, rfl⟩), fun m hm => (hi m).mpr ((hP m).mpr hm)⟩
theorem hsr_end {o : Nat → Int32} {M : Nat} (h : hsrt o 0 M) : ∀ i j, i ≤ j → j < M → (o i).toInt ≤ (o j).toInt := by
  intro i j h1 h2
  by_cases c : i = 0
  · subst c
    by_cases d : j = 0
    · subst d; exact Int.le_refl _
    · exact h.2 0 j (Nat.le_refl 0) (by omega) h2
  · exact h.1 i j (by omega) h1 h2
theorem dd_same {o f : Nat → Int32} {L q : Nat} (hL : 0 < L) (hi : ∀ m, inS f L m ↔ inS o q m) (hl : (f (L - 1)).toInt = (o q).toInt) : ∀ m, inS f L m ↔ inS o (q + 1) m := by
  intro m
  constructor
  · intro h
    obtain ⟨i, hi2, e⟩ := (hi m).mp h
    exact ⟨i, by omega, e⟩
  · rintro ⟨i, hi2, e⟩
    by_cases c : i = q
    · subst c; exact ⟨L - 1, by omega, hl.trans e⟩
    · exact (hi m).mpr ⟨i, by omega, e⟩
theorem dd_new {o f : Nat → Int32} {L q : Nat} {v : Int32} (hv : v.toInt = (o q).toInt) (hi : ∀ m, inS f L m ↔ inS o q m) : ∀ m, inS (upd f L v) (L + 1) m ↔ inS o (q + 1) m := by
  intro m
  rw [inS_push, hi m]
  constructor
  · rintro (⟨i, h1, e⟩ | e)
    · exact ⟨i, by omega, e⟩
    · exact ⟨q, by omega, by rw [e, hv]⟩
  · rintro ⟨i, h1, e⟩
    by_cases c : i = q
    · subst c; exact Or.inr (by rw [← e, hv])
    · exact Or.inl ⟨i, by omega, e⟩
theorem dd_str {f : Nat → Int32} {L : Nat} {v : Int32} (hs : ∀ i, i + 1 < L → (f i).toInt < (f (i + 1)).toInt) (hl : 0 < L → (f (L - 1)).toInt < v.toInt) : ∀ i, i + 1 < L + 1 → (upd f L v i).toInt < (upd f L v (i + 1)).toInt := by
  intro i h
  rw [upd_ne (show i ≠ L by omega)]
  by_cases c : i + 1 = L
  · rw [c, upd_same]
    have := hl (by omega)
    rw [show L - 1 = i by omega] at this
    exact this
  · rw [upd_ne c]; exact hs i (by omega)
/-! ===== what gathering leaves ===== -/
def OSt (G : Gl) (ad : Nat → Nat) (E E1 : Nat → va_E) (im ic md : Nat → Int32) (TT : Nat → TST) (od : Nat → Int32) (M : Nat) : Prop := ∃ im1 : Nat → Int32, (∀ q, q ≠ 7 → q ≠ 41 → im1 q = im q) ∧ (im1 41).toInt = (M : Int) ∧ MCal G ad E1 im1 ic md ∧ ZMs G E1 5 TT ∧ E1 97 = aI G 40000 od ∧ ∀ j, j ≠ 68 → j ≠ 70 → (j < 79 ∨ 84 < j) → j ≠ 97 → E1 j = E j
def AOs (G : Gl) (ad : Nat → Nat) (E E1 : Nat → va_E) (im od : Nat → Int32) (M : Nat) : Prop := ∃ im1 : Nat → Int32, (∀ q, q ≠ 41 → im1 q = im q) ∧ (im1 41).toInt = (M : Int) ∧ E1 68 = ob 9 (rX9 ad) im1 ∧ E1 97 = aI G 40000 od ∧ ∀ j, j ≠ 68 → j ≠ 97 → E1 j = E j
