/-! ===== the frame: one world for all methods: cells 0 .. n-1 at the addresses ad, holding E ===== -/
theorem tb_good {w : Cond} (h : w ∈ tb) : (w.onTables && w.keeps) = true ∨ ∃ ty, w = .arrayClass ty := good_of_word (List.mem_filter.mp h).2
theorem tb_in {ws : List Cond} (h : ∀ w ∈ ws, w ∈ tb) : GoodIn tb ws := fun w hw => ⟨h w hw, tb_good (h w hw)⟩
abbrev Gl : Type := va_G × (Nat → ClassId) × (Nat → Nat)
def fl (mk : Nat → Bool) (N : Nat) (r : Nat → Option Nat) (i : Nat → Int32) : List Value := (List.range N).map (fun k => if mk k then va_rf (r k) else .int (i k))
theorem fl_len (mk : Nat → Bool) (N : Nat) (r : Nat → Option Nat) (i : Nat → Int32) : (fl mk N r i).length = N := by simp [fl]
theorem fl_int {mk : Nat → Bool} {N : Nat} {r : Nat → Option Nat} {i : Nat → Int32} {k : Nat} {v : Int32} (hk : k < N) (hm : mk k = false) (hv : i k = v) : (fl mk N r i)[k]? = some (.int v) := by
  simp [fl, hk, hm, hv]
theorem fl_ref {mk : Nat → Bool} {N : Nat} {r : Nat → Option Nat} {i : Nat → Int32} {k : Nat} {v : Option Nat} (hk : k < N) (hm : mk k = true) (hv : r k = v) : (fl mk N r i)[k]? = some (va_rf v) := by
  simp [fl, hk, hm, hv]
theorem fl_seti {mk : Nat → Bool} {N : Nat} {r : Nat → Option Nat} {i : Nat → Int32} {k : Nat} {v : Int32} (hm : mk k = false) : (fl mk N r i).set k (.int v) = fl mk N r (va_up i k v) := by
  apply List.ext_getElem?
  intro j
  rw [List.getElem?_set]
  by_cases h : k = j
  · subst h
    by_cases h2 : k < N
    · simp [fl, h2, hm, va_up]
    · simp [fl, h2]
  · rw [if_neg h]
    by_cases h2 : j < N
    · have h3 : ¬ j = k := fun q => h q.symm
      simp [fl, h2, va_up, h3]
    · simp [fl, h2]
theorem fl_setr {mk : Nat → Bool} {N : Nat} {r : Nat → Option Nat} {i : Nat → Int32} {k a : Nat} (hm : mk k = true) : (fl mk N r i).set k (.ref a) = fl mk N (va_up r k (some a)) i := by
  apply List.ext_getElem?
  intro j
  rw [List.getElem?_set]
  by_cases h : k = j
  · subst h
    by_cases h2 : k < N
    · simp [fl, h2, hm, va_up, va_rf]
    · simp [fl, h2]
  · rw [if_neg h]
    by_cases h2 : j < N
    · have h3 : ¬ j = k := fun q => h q.symm
      simp [fl, h2, va_up, h3]
    · simp [fl, h2]
abbrev ob (ci : Nat) (r : Nat → Option Nat) (i : Nat → Int32) : va_E := .inr (ci, fl (clM ci) (clN ci) r i)
abbrev aI (G : Gl) (n : Nat) (f : Nat → Int32) : va_E := .inl (G.2.1 0, n, .inl f)
abbrev aJ (G : Gl) (n : Nat) (f : Nat → Int64) : va_E := .inl (G.2.1 1, n, .inr (.inl f))
abbrev aZ (G : Gl) (n : Nat) (f : Nat → Int32) : va_E := .inl (G.2.1 2, n, .inl f)
abbrev aQ (G : Gl) (k : Nat) (n : Nat) (f : Nat → Option Nat) : va_E := .inl (G.2.1 k, n, .inr (.inr (.inr (.inr f))))
abbrev tyG (G : Gl) : List (ClassId × FieldType) := [(G.2.1 0, .int), (G.2.1 1, .long), (G.2.1 2, .boolean), (G.2.1 3, .object "OddHours$Zone"), (G.2.1 4, .object "OddHours$Program")]
def wl (n : Nat) (ad : Nat → Nat) (E : Nat → va_E) : va_W := (List.range n).map (fun k => (ad k, E k))
theorem wl_at {n : Nat} {ad : Nat → Nat} {E : Nat → va_E} {k : Nat} (h : k < n) : (wl n ad E)[k]? = some (ad k, E k) := by simp [wl, h]
theorem wl_e {n : Nat} {ad : Nat → Nat} {E : Nat → va_E} {k : Nat} {x : va_E} (h : k < n) (he : E k = x) : (wl n ad E)[k]? = some (ad k, x) := by rw [← he]; exact wl_at h
theorem wl_of {n : Nat} {ad : Nat → Nat} {E : Nat → va_E} {k : Nat} {q : Nat × va_E} (h : (wl n ad E)[k]? = some q) : k < n ∧ q = (ad k, E k) := by
  have h1 : k < (wl n ad E).length := (List.getElem?_eq_some_iff.mp h).1
  have h2 : k < n := by simpa [wl] using h1
  rw [wl_at h2] at h
  exact ⟨h2, (Option.some.inj h).symm⟩
theorem wl_set {n : Nat} {ad : Nat → Nat} {E : Nat → va_E} {k : Nat} {x : va_E} : (wl n ad E).set k (ad k, x) = wl n ad (va_up E k x) := by
  apply List.ext_getElem?
  intro j
  rw [List.getElem?_set]
  by_cases h : k = j
  · subst h
    by_cases h2 : k < n
    · simp [wl, h2, va_up]
    · simp [wl, h2]
  · rw [if_neg h]
    by_cases h2 : j < n
    · have h3 : ¬ j = k := fun q => h q.symm
      simp [wl, h2, va_up, h3]
    · simp [wl, h2]
theorem wl_push {n : Nat} {ad : Nat → Nat} {E : Nat → va_E} {q : Nat} {x : va_E} : wl n ad E ++ [(q, x)] = wl (n + 1) (va_up ad n q) (va_up E n x) := by
  unfold wl
  rw [List.range_succ, List.map_append]
  congr 1
  · apply List.map_congr_left
    intro k hk
    have h3 : ¬ k = n := Nat.ne_of_lt (List.mem_range.mp hk)
    simp [va_up, h3]
  · simp [va_up]
theorem wl_D {A : Nat → Prop} {n : Nat} {ad : Nat → Nat} {E E' : Nat → va_E} (h : va_D A (wl n ad E)) : va_D A (wl n ad E') := by
  refine ⟨fun i j p q hp hq hpq => ?_, fun k q hq => ?_⟩
  · obtain ⟨h1, rfl⟩ := wl_of hp
    obtain ⟨h2, rfl⟩ := wl_of hq
    exact h.1 i j _ _ (wl_at h1) (wl_at h2) hpq
  · obtain ⟨h1, rfl⟩ := wl_of hq
    exact h.2 k (ad k, E k) (wl_at h1)
theorem wl_A {n : Nat} {ad : Nat → Nat} {E E' : Nat → va_E} {sz : Nat} : va_A (wl n ad E) sz = va_A (wl n ad E') sz := by
  funext q
  apply propext
  constructor
  · rintro (⟨k, e, h⟩ | h)
    · obtain ⟨h1, h2⟩ := wl_of h
      exact Or.inl ⟨k, E' k, by rw [wl_at h1, show q = ad k from congrArg Prod.fst h2]⟩
    · exact Or.inr h
  · rintro (⟨k, e, h⟩ | h)
    · obtain ⟨h1, h2⟩ := wl_of h
      exact Or.inl ⟨k, E k, by rw [wl_at h1, show q = ad k from congrArg Prod.fst h2]⟩
    · exact Or.inr h
theorem wl_free {A0 : Nat → Prop} {n : Nat} {ad : Nat → Nat} {E : Nat → va_E} {H0 H : Heap} {locs : List Loc} (hD : va_D A0 (wl n ad E)) (hS : va_S A0 H0 H locs) (hA : ∀ q, H0.size ≤ q → A0 q) : ∀ q, va_A (wl n ad E) H.size q → A0 q := by
  rintro q (⟨k, e, h⟩ | h)
  · exact hD.2 k (q, e) h
  · exact hA q (Nat.le_trans hS.1 h)
/-- what stays true of the start: the static arrays, the array classes over objects, the links to nest mates -/
def nwL : List (String × Nat × MethodName × String) := [("OddHours$Calendar", 43, ⟨"OddHours", "rest", "(II)I"⟩, "OddHours"), ("OddHours", 18, ⟨"OddHours$Zones", "<init>", "()V"⟩, "OddHours"), ("OddHours", 29, ⟨"OddHours$Program", "<init>", "()V"⟩, "OddHours"), ("OddHours", 32, ⟨"OddHours$Odds", "<init>", "()V"⟩, "OddHours"), ("OddHours$Mender", 11, ⟨"OddHours$Program", "<init>", "()V"⟩, "OddHours"), ("OddHours$Machine", 76, ⟨"OddHours", "isMoment", "(I)Z"⟩, "OddHours")]
def nwF : List (String × Nat × String × String × String × String) := [("OddHours$Mender", 113, "OddHours", "MOST_X", "[I", "OddHours"), ("OddHours$Mender", 123, "OddHours", "MOST_Y", "[I", "OddHours")]
def stY : Nat → Int32 := fun k => if k = 4 then 1 else if k = 7 then 2 else 0
def stX : Nat → Int32 := fun k => if k = 3 then 1439 else if k = 5 then 9999 else if k = 6 then 999 else if k = 7 then 99 else 0
def stL : Nat → Int32 := fun k => if k = 5 then -9999 else if k = 6 then -999 else if k = 7 then -99 else 0
def Sx (G : Gl) (A : Nat → Prop) (U : State) (H : Heap) : Prop :=
  (va_Z "OddHours" "MOST_Y" "[I" (.ref (G.2.2 0)) A U H ∧ va_T .int (G.2.2 0) 12 (fun k => .int (stY k)) A U H) ∧
  (va_Z "OddHours" "MOST_X" "[I" (.ref (G.2.2 1)) A U H ∧ va_T .int (G.2.2 1) 12 (fun k => .int (stX k)) A U H) ∧
  (va_Z "OddHours" "LEAST_X" "[I" (.ref (G.2.2 2)) A U H ∧ va_T .int (G.2.2 2) 12 (fun k => .int (stL k)) A U H) ∧
  (va_AO "OddHours$Zone" U ∧ va_AO "OddHours$Program" U) ∧
  (∀ q ∈ nwL, va_Nw (.methodLinkNest q.1 q.2.1 q.2.2.1 q.2.2.2) U) ∧ ∀ q ∈ nwF, va_Nw (.fieldLinkNest q.1 q.2.1 q.2.2.1 q.2.2.2.1 q.2.2.2.2.1 q.2.2.2.2.2) U
theorem Sx.same {G : Gl} {A : Nat → Prop} {u U : State} {H : Heap} (h : Sx G A u H) (hv : u.vm = U.vm) : Sx G A U H := by
  obtain ⟨⟨a1, a2⟩, ⟨b1, b2⟩, ⟨c1, c2⟩, ⟨d1, d2⟩, e1, f1⟩ := h
  have ha : u.vm.Alike U.vm := by rw [hv]; exact Vm.Alike.refl _
  exact ⟨⟨a1.moved ha, a2.moved ha⟩, ⟨b1.moved ha, b2.moved ha⟩, ⟨c1.moved ha, c2.moved ha⟩, ⟨d1.moved ha, d2.moved ha⟩, fun q hq => va_Nw.same rfl hv (e1 q hq), fun q hq => va_Nw.same rfl hv (f1 q hq)⟩
theorem Sx.go {G : Gl} {A B : Nat → Prop} {s U : State} {H : Heap} {locs : List Loc} (h : Sx G A s s.heap) (hW : s.WarmedH U.vm) (hS : va_S A s.heap H locs) (hAB : ∀ q, B q → A q) : Sx G B U H := by
  obtain ⟨⟨a1, a2⟩, ⟨b1, b2⟩, ⟨c1, c2⟩, ⟨d1, d2⟩, e1, f1⟩ := h
  have ha : s.vm.Alike U.vm := hW.alike
  exact ⟨⟨((a1.kept hS.2.1).narrow hAB).moved ha, ((a2.kept hS.2.1).narrow hAB).moved ha⟩, ⟨((b1.kept hS.2.1).narrow hAB).moved ha, ((b2.kept hS.2.1).narrow hAB).moved ha⟩, ⟨((c1.kept hS.2.1).narrow hAB).moved ha, ((c2.kept hS.2.1).narrow hAB).moved ha⟩, ⟨d1.moved ha, d2.moved ha⟩, fun q hq => va_Nw.warmM hW (e1 q hq), fun q hq => va_Nw.warmF hW (f1 q hq)⟩
abbrev Mx : Type := Program × Launch × Env × Room × State × MethodId × Array Value × List Frame × Method × Code
abbrev Mx.p (X : Mx) : Program := X.1
abbrev Mx.l (X : Mx) : Launch := X.2.1
abbrev Mx.e (X : Mx) : Env := X.2.2.1
abbrev Mx.R (X : Mx) : Room := X.2.2.2.1
abbrev Mx.s (X : Mx) : State := X.2.2.2.2.1
abbrev Mx.m (X : Mx) : MethodId := X.2.2.2.2.2.1
abbrev Mx.args (X : Mx) : Array Value := X.2.2.2.2.2.2.1
abbrev Mx.below (X : Mx) : List Frame := X.2.2.2.2.2.2.2.1
abbrev Mx.meth (X : Mx) : Method := X.2.2.2.2.2.2.2.2.1
abbrev Mx.c (X : Mx) : Code := X.2.2.2.2.2.2.2.2.2
/-- what holds all through a method's body -/
def Cx (X : Mx) (l : Launch) (G : Gl) (A : Nat → Prop) (own : String) (cc : ByteArray) (nL : Nat) (ret : Option FieldType) (R : Room) : Prop :=
  X.p.tables.exec = Jvm.exec ∧ X.c.code = cc ∧ X.c.maxLocals = nL ∧ X.s.vm.findClass own = some X.m.cls ∧ (∀ w ∈ tb, w.before X.args X.s = true) ∧ va_K G.1 classes (tyG G) X.s ∧ (∀ q, X.s.heap.size ≤ q → A q) ∧ Sx G A X.s X.s.heap ∧ X.meth.locks = false ∧ X.meth.sig.returnType = ret ∧ X.l = l ∧ X.R = R
/-- from here the machine comes to a state with Q -/
def V (X : Mx) (G : Gl) (A : Nat → Prop) (nL : Nat) (Q : State → Prop) (n : Nat) (ad : Nat → Nat) (ce sl : Nat) (E : Nat → va_E) (pc : Nat) (lv : List (Nat × Value)) (st : List Value) : Prop :=
  ∀ (H : Heap) (locs : List Loc) (ls : Array Slot), va_P G.1 classes (wl n ad E) H → va_D A (wl n ad E) → va_S A X.s.heap H locs → lv_has ls nL lv → W X.p X.l X.e X.R X.s X.m X.args X.below X.meth X.c H locs ce sl Q (F0 X.m pc ls st)
def Pre (G : Gl) (n : Nat) (ad : Nat → Nat) (E : Nat → va_E) (sz : Nat) (U : State) : Prop := U.heap.size = sz ∧ va_P G.1 classes (wl n ad E) U.heap ∧ va_K G.1 classes (tyG G) U ∧ va_D (fun _ => True) (wl n ad E) ∧ Sx G (va_A (wl n ad E) sz) U U.heap
def Aft (G : Gl) (A : Nat → Prop) (n : Nat) (ad : Nat → Nat) (E : Nat → va_E) (t : State) : Prop := va_P G.1 classes (wl n ad E) t.heap ∧ va_K G.1 classes (tyG G) t ∧ va_D A (wl n ad E)
abbrev rmx (fr lo ce sl : Nat) : Room := { frames := fr, cells := ce, slots := sl, locals := lo }
/-- contracts: an int (or boolean), nothing, a reference or null; of methods that make nothing -/
def CtI (l : Launch) (G : Gl) (y : MethodName) (cc : ByteArray) (maxL : Nat) (ret : FieldType) (fr lo : Nat) (n : Nat) (ad : Nat → Nat) (E : Nat → va_E) (av : List Value) (post : Int32 → (Nat → va_E) → Prop) : Prop :=
  ∀ sz, Met l y (.code y cc maxL (some ret) :: tb) (rmx fr lo 0 0) (va_Pc av (Pre G n ad E sz)) (va_Qi post (Aft G (va_A (wl n ad E) sz) n ad) (va_A (wl n ad E) sz)) 0 0 (va_A (wl n ad E) sz)
def CtV (l : Launch) (G : Gl) (y : MethodName) (cc : ByteArray) (maxL : Nat) (fr lo : Nat) (n : Nat) (ad : Nat → Nat) (E : Nat → va_E) (av : List Value) (post : (Nat → va_E) → Prop) : Prop :=
  ∀ sz, Met l y (.code y cc maxL none :: tb) (rmx fr lo 0 0) (va_Pc av (Pre G n ad E sz)) (va_Qv post (Aft G (va_A (wl n ad E) sz) n ad) (va_A (wl n ad E) sz)) 0 0 (va_A (wl n ad E) sz)
def CtQ (l : Launch) (G : Gl) (y : MethodName) (cc : ByteArray) (maxL : Nat) (ret : FieldType) (fr lo : Nat) (n : Nat) (ad : Nat → Nat) (E : Nat → va_E) (av : List Value) (post : Option Nat → (Nat → va_E) → Prop) : Prop :=
  ∀ sz, Met l y (.code y cc maxL (some ret) :: tb) (rmx fr lo 0 0) (va_Pc av (Pre G n ad E sz)) (va_Qq post (Aft G (va_A (wl n ad E) sz) n ad) (va_A (wl n ad E) sz)) 0 0 (va_A (wl n ad E) sz)
/-- a maker: k cells of w slots come, at the end of the world -/
def CtN (l : Launch) (G : Gl) (y : MethodName) (cc : ByteArray) (maxL : Nat) (fr lo k w : Nat) (n n' : Nat) (ad : Nat → Nat) (E : Nat → va_E) (av : List Value) (post : (Nat → Nat) × (Nat → va_E) → Prop) : Prop :=
  ∀ sz, Met l y (.code y cc maxL none :: tb) (rmx fr lo k w) (va_Pc av (Pre G n ad E sz)) (va_Qv post (fun u t => Aft G (va_A (wl n ad E) sz) n' u.1 u.2 t) (va_A (wl n ad E) sz)) k w (va_A (wl n ad E) sz)
def CtM (l : Launch) (G : Gl) (y : MethodName) (cc : ByteArray) (maxL : Nat) (ret : FieldType) (fr lo k w : Nat) (n n' : Nat) (ad : Nat → Nat) (E : Nat → va_E) (av : List Value) (post : Int32 → (Nat → Nat) × (Nat → va_E) → Prop) : Prop :=
  ∀ sz, Met l y (.code y cc maxL (some ret) :: tb) (rmx fr lo k w) (va_Pc av (Pre G n ad E sz)) (va_Qi post (fun u t => Aft G (va_A (wl n ad E) sz) n' u.1 u.2 t) (va_A (wl n ad E) sz)) k w (va_A (wl n ad E) sz)
abbrev QI (X : Mx) (G : Gl) (A : Nat → Prop) (n : Nat) (ad : Nat → Nat) (post : Int32 → (Nat → va_E) → Prop) : State → Prop := MQ X.below (va_Qi post (Aft G A n ad) A) X.args X.s 0 0 A
abbrev QV (X : Mx) (G : Gl) (A : Nat → Prop) (n : Nat) (ad : Nat → Nat) (post : (Nat → va_E) → Prop) : State → Prop := MQ X.below (va_Qv post (Aft G A n ad) A) X.args X.s 0 0 A
abbrev QQ (X : Mx) (G : Gl) (A : Nat → Prop) (n : Nat) (ad : Nat → Nat) (post : Option Nat → (Nat → va_E) → Prop) : State → Prop := MQ X.below (va_Qq post (Aft G A n ad) A) X.args X.s 0 0 A
abbrev QN (X : Mx) (G : Gl) (A : Nat → Prop) (n' k w : Nat) (post : (Nat → Nat) × (Nat → va_E) → Prop) : State → Prop := MQ X.below (va_Qv post (fun u t => Aft G A n' u.1 u.2 t) A) X.args X.s k w A
abbrev QM (X : Mx) (G : Gl) (A : Nat → Prop) (n' k w : Nat) (post : Int32 → (Nat → Nat) × (Nat → va_E) → Prop) : State → Prop := MQ X.below (va_Qi post (fun u t => Aft G A n' u.1 u.2 t) A) X.args X.s k w A
theorem Pre.blind {G : Gl} {n : Nat} {ad : Nat → Nat} {E : Nat → va_E} {sz : Nat} {av : List Value} : FrameBlind (va_Pc av (Pre G n ad E sz)) := by
  intro a U g mk h
  obtain ⟨h0, h1, h2, h3, h4, h5⟩ := h
  exact ⟨h0, h1, h2, va_K.moved (u := U) (U := U.calling g mk a) (Vm.Alike.refl U.vm) h3, h4, h5.same rfl⟩
theorem ent {l : Launch} {G : Gl} {y : MethodName} {cc : ByteArray} {maxL : Nat} {ret : Option FieldType} {R : Room} {n : Nat} {ad : Nat → Nat} {E : Nat → va_E} {av : List Value} {sz mc ms : Nat} {Qc : Array Value → State → Outcome → State → Prop} (hy : plainName y.cls = true) (hav : (lg_sl av).length ≤ maxL)
    (body : ∀ (X : Mx) (A : Nat → Prop), A = va_A (wl n ad E) sz → X.s.heap.size = sz → X.meth.name = y.name → Cx X l G A y.cls cc maxL ret R → V X G A maxL (MQ X.below Qc X.args X.s mc ms A) n ad 0 0 E 0 (lv_args 0 av) []) :
    Met l y (.code y cc maxL ret :: tb) R (va_Pc av (Pre G n ad E sz)) Qc mc ms (va_A (wl n ad E) sz) := by
  refine Met.ofW (cc := cc) (maxL := maxL) (ret := ret) hy rfl ?_
  intro p e s m args below meth c s₁ B hml hv
  obtain ⟨rfl, hsz, hP, hK, hD0, hX⟩ := hv
  have hts : ∀ w ∈ tb, w.before av.toArray s = true := fun w hw => atoms_spec (ws := .code y cc maxL ret :: tb) B.pre w (List.mem_cons_of_mem _ hw)
  have hown : s.vm.findClass y.cls = some m.cls := findClass_of_methodNamed B.named
  have hD := hD0.self (sz := sz)
  have hA : ∀ q : Nat, s.heap.size ≤ q → va_A (wl n ad E) sz q := fun q h => Or.inr (by rw [← hsz]; exact h)
  have hl := lv_entry av (n := maxL) hav
  rw [lg_entry_eq]
  exact body (p, l, e, R, s, m, av.toArray, below, meth, c) (va_A (wl n ad E) sz) rfl hsz (name_of_methodNamed B.named B.method).1 ⟨B.exec, B.bytes, hml, hown, hts, hK, hA, hX, B.notSynchronized, B.returns, rfl, rfl⟩ s.heap [] _ hP hD va_S.rf hl
theorem CtI.of {l : Launch} {G : Gl} {y : MethodName} {cc : ByteArray} {maxL : Nat} {ret : FieldType} {fr lo : Nat} {n : Nat} {ad : Nat → Nat} {E : Nat → va_E} {av : List Value} {post : Int32 → (Nat → va_E) → Prop} (hy : plainName y.cls = true) (hav : (lg_sl av).length ≤ maxL)
    (body : ∀ (X : Mx) (A : Nat → Prop), Cx X l G A y.cls cc maxL (some ret) (rmx fr lo 0 0) → V X G A maxL (QI X G A n ad post) n ad 0 0 E 0 (lv_args 0 av) []) : CtI l G y cc maxL ret fr lo n ad E av post :=
  fun _ => ent hy hav fun X A hA _ _ C => by subst hA; exact body X _ C
theorem CtV.of {l : Launch} {G : Gl} {y : MethodName} {cc : ByteArray} {maxL : Nat} {fr lo : Nat} {n : Nat} {ad : Nat → Nat} {E : Nat → va_E} {av : List Value} {post : (Nat → va_E) → Prop} (hy : plainName y.cls = true) (hav : (lg_sl av).length ≤ maxL)
    (body : ∀ (X : Mx) (A : Nat → Prop), Cx X l G A y.cls cc maxL none (rmx fr lo 0 0) → V X G A maxL (QV X G A n ad post) n ad 0 0 E 0 (lv_args 0 av) []) : CtV l G y cc maxL fr lo n ad E av post :=
  fun _ => ent hy hav fun X A hA _ _ C => by subst hA; exact body X _ C
theorem CtQ.of {l : Launch} {G : Gl} {y : MethodName} {cc : ByteArray} {maxL : Nat} {ret : FieldType} {fr lo : Nat} {n : Nat} {ad : Nat → Nat} {E : Nat → va_E} {av : List Value} {post : Option Nat → (Nat → va_E) → Prop} (hy : plainName y.cls = true) (hav : (lg_sl av).length ≤ maxL)
    (body : ∀ (X : Mx) (A : Nat → Prop), Cx X l G A y.cls cc maxL (some ret) (rmx fr lo 0 0) → V X G A maxL (QQ X G A n ad post) n ad 0 0 E 0 (lv_args 0 av) []) : CtQ l G y cc maxL ret fr lo n ad E av post :=
  fun _ => ent hy hav fun X A hA _ _ C => by subst hA; exact body X _ C
theorem CtN.of {l : Launch} {G : Gl} {y : MethodName} {cc : ByteArray} {maxL : Nat} {fr lo k w : Nat} {n n' : Nat} {ad : Nat → Nat} {E : Nat → va_E} {av : List Value} {post : (Nat → Nat) × (Nat → va_E) → Prop} (hy : plainName y.cls = true) (hav : (lg_sl av).length ≤ maxL)
    (body : ∀ (X : Mx) (A : Nat → Prop), X.meth.name = y.name → Cx X l G A y.cls cc maxL none (rmx fr lo k w) → V X G A maxL (QN X G A n' k w post) n ad 0 0 E 0 (lv_args 0 av) []) : CtN l G y cc maxL fr lo k w n n' ad E av post :=
  fun _ => ent hy hav fun X A hA _ hn C => by subst hA; exact body X _ hn C
theorem CtM.of {l : Launch} {G : Gl} {y : MethodName} {cc : ByteArray} {maxL : Nat} {ret : FieldType} {fr lo k w : Nat} {n n' : Nat} {ad : Nat → Nat} {E : Nat → va_E} {av : List Value} {post : Int32 → (Nat → Nat) × (Nat → va_E) → Prop} (hy : plainName y.cls = true) (hav : (lg_sl av).length ≤ maxL)
    (body : ∀ (X : Mx) (A : Nat → Prop), Cx X l G A y.cls cc maxL (some ret) (rmx fr lo k w) → V X G A maxL (QM X G A n' k w post) n ad 0 0 E 0 (lv_args 0 av) []) : CtM l G y cc maxL ret fr lo k w n n' ad E av post :=
  fun _ => ent hy hav fun X A hA _ _ C => by subst hA; exact body X _ C
