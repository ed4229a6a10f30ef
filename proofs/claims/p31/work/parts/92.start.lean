/-! THE CLAIM OUT OF ONE WALK OF THE LAW'S BODY. Your part is whole_start (and what it stands on); all else here is the same for every law, but numbers. -/
def R_law : String := "OddHoursLaw"
def lw_P (b : Addr) (xs : List Int32) (args : Array Value) (s : State) : Prop := args = #[.ref b] ∧ s.IntsAt b xs ∧ xs.length ≤ 3072 ∧ (Jvm.Cond.and given_1 narrow_1).before args s = true
def lw_Q (_ : Array Value) (s : State) (o : Outcome) (t : State) : Prop := o = .returned (some (.int 1)) ∧ Framed s o t [] 600000 7302250
def lw_Z (below : List Frame) (a : Array Value) (s : State) : State → Prop := fun t => ∃ o, t.status = .running ∧ Ended t below o ∧ lw_Q a s o t
/-- the law's own end, with 1 on the stack, nothing written that was there before, its room as the claim has it -/
theorem lw_ret {p : Program} {l : Launch} {e : Env} {s : State} {m : MethodId} {below : List Frame} {meth : Method} {c : Code} {b : Nat} (hx : p.tables.exec = Jvm.exec) (hb : c.code = code) (hr : meth.sig.returnType = ret) (hlocks : meth.locks = false) {pc : Nat} {H : Heap} {ls : Array Slot} (hdg : decode code pc = .ok (.ireturn, 1)) : W p l e room_1 s m #[Value.ref b] below meth c H [] 600000 7302250 (lw_Z below #[Value.ref b] s) (F0 m pc ls [.int 1]) := by
  intro T hT X
  obtain ⟨fs, hret, hrun, hended, hW, hframe⟩ := X.leave (v := some (.int 1)) (hlocks := hlocks) (fun h => by rw [hr] at h; cases h)
  have hmeth' : T.vm.method? m = some meth := X.method'
  refine ⟨T.setFrames fs, ?_, .returned (some (.int 1)), hrun, hended, rfl, ⟨_, rfl⟩, hW, hframe⟩
  jvm_step X.here [X.here.top, hx, hb, hdg, hmeth', hr, ret, narrow_b1]
  (try refine ⟨rfl, ?_⟩); (try refine ⟨rfl, ?_⟩)
  first | (intro acts; rw [hret _ acts rfl rfl rfl]) | rw [hret _ _ rfl rfl rfl]
  exact Steps.refl _
/-- what holds at the law's entry: the machine, the code, the tables' words (any of lw_tbl by 'hts w (by decide +kernel)'), the script of L ints xs at the cell b, what the Statement gives of the start (any of its parts by flat_of_before) -/
def lw_At (p : Program) (s : State) (m : MethodId) (meth : Method) (c : Code) (b L : Nat) (xs : Nat → Int32) : Prop :=
  p.tables.exec = Jvm.exec ∧ c.code = code ∧ meth.sig.returnType = ret ∧ c.maxLocals = 4 ∧ s.vm.findClass R_law = some m.cls ∧ (∀ w ∈ lw_tbl, w.before #[Value.ref b] s = true) ∧ va_X b L xs s s.heap ∧ b < s.heap.size ∧ meth.locks = false ∧ (Jvm.Cond.and given_1 narrow_1).before #[Value.ref b] s = true
theorem il_t1 {w : Cond} (h : w ∈ tables_1_1) : w ∈ lw_tbl := List.mem_append_right _ (List.mem_append_left _ h)
theorem il_t2 {w : Cond} (h : w ∈ tables_1_2) : w ∈ lw_tbl := List.mem_append_right _ (List.mem_append_right _ (List.mem_append_left _ h))
theorem il_t3 {w : Cond} (h : w ∈ tables_1_3) : w ∈ lw_tbl := List.mem_append_right _ (List.mem_append_right _ (List.mem_append_right _ (List.mem_append_left _ h)))
theorem il_t4 {w : Cond} (h : w ∈ tables_1_4) : w ∈ lw_tbl := List.mem_append_right _ (List.mem_append_right _ (List.mem_append_right _ (List.mem_append_right _ (List.mem_append_left _ h))))
theorem il_t5 {w : Cond} (h : w ∈ tables_1_5) : w ∈ lw_tbl := List.mem_append_right _ (List.mem_append_right _ (List.mem_append_right _ (List.mem_append_right _ (List.mem_append_right _ (List.mem_append_left _ h)))))
theorem il_t6 {w : Cond} (h : w ∈ tables_1_6) : w ∈ lw_tbl := List.mem_append_right _ (List.mem_append_right _ (List.mem_append_right _ (List.mem_append_right _ (List.mem_append_right _ (List.mem_append_right _ (h))))))
theorem st_C {args : Array Value} {s : State} (htb : ∀ w ∈ tb, w.before args s = true) : ∃ D : va_G, ∀ (c : Nat) (q : vw_C), classes[c]? = some q → u_Kn s q.1 q.2.1 q.2.2 (D.1 c) (D.2 c) := by
  have h : ∀ ci : Nat, ∃ (cC : ClassId) (iS : Nat → Nat), ci < 10 → u_Kn s (clR ci) (clT ci) (clN ci) cC iS := by
    intro ci
    by_cases hci : ci < 10
    · have hin : ∃ k, (Cond.instantiable (clR ci) k).before args s = true := by
        match ci, hci with
        | 0, _ => exact ⟨_, htb _ zX0⟩
        | 1, _ => exact ⟨_, htb _ zX1⟩
        | 2, _ => exact ⟨_, htb _ zX2⟩
        | 3, _ => exact ⟨_, htb _ zX3⟩
        | 4, _ => exact ⟨_, htb _ zX4⟩
        | 5, _ => exact ⟨_, htb _ zX5⟩
        | 6, _ => exact ⟨_, htb _ zX6⟩
        | 7, _ => exact ⟨_, htb _ zX7⟩
        | 8, _ => exact ⟨_, htb _ zX8⟩
        | 9, _ => exact ⟨_, htb _ zX9⟩
      obtain ⟨k, hk⟩ := hin
      obtain ⟨cC, iS, hh⟩ := u_known (n := k) htb (cl_in hci) hk
      exact ⟨cC, iS, fun _ => hh⟩
    · exact ⟨0, fun _ => 0, fun q => absurd q hci⟩
  refine ⟨(fun ci => Classical.choose (h ci), fun ci => Classical.choose (Classical.choose_spec (h ci))), fun c q hq => ?_⟩
  have hc : c < 10 := (List.getElem?_eq_some_iff.mp hq).1
  rw [cl_ok hc] at hq
  cases hq
  exact Classical.choose_spec (Classical.choose_spec (h c)) hc
theorem st_A {args : Array Value} {s : State} {ty : FieldType} (h : (Cond.arrayClass ty).before args s = true) : ∃ cA : ClassId, ArrOfT s cA ty ∧ s.vm.findClass ("[" ++ ty.toString) = some cA := by
  obtain ⟨c, k, comp, h1, h2, h3⟩ := Cond.arrayClass_spec h
  exact ⟨c, fun N z => ⟨(fun k h => by cases h), k, h2, comp, h3⟩, h1⟩
theorem st_O {args : Array Value} {s : State} {C : String} (h : (Cond.arrayOver (.object C)).before args s = true) : ∃ cA : ClassId, ArrOfT s cA (.object C) ∧ va_RA s cA (.object C) := by
  obtain ⟨comp, c, k, h1, h2, h3, h4, h5⟩ := Cond.arrayOver_spec h
  exact ⟨c, fun N z => ⟨(fun k h => by cases h), k, h3, comp, h4⟩, k, comp, h3, h4, h1, h5⟩
theorem st_K {args : Array Value} {s : State} (hts : ∀ w ∈ lw_tbl, w.before args s = true) : ∃ (D : va_G) (a : Nat → ClassId), ∀ r : Nat → Nat, va_K D classes (tyG (D, a, r)) s := by
  have htb : ∀ w ∈ tb, w.before args s = true := fun w hw => hts w (List.mem_filter.mp hw).1
  obtain ⟨D, hD⟩ := st_C htb
  obtain ⟨c0, a0, b0⟩ := st_A (htb _ ac_int)
  obtain ⟨c1, a1, b1⟩ := st_A (htb _ ac_long)
  obtain ⟨c2, a2, b2⟩ := st_A (htb _ ac_boolean)
  obtain ⟨c3, a3, b3⟩ := st_O (hts _ (il_t1 (List.mem_of_getElem? (i := 79) rfl)))
  obtain ⟨c4, a4, b4⟩ := st_O (hts _ (il_t1 (List.mem_of_getElem? (i := 91) rfl)))
  refine ⟨D, fun k => match k with | 0 => c0 | 1 => c1 | 2 => c2 | 3 => c3 | _ => c4, fun r => ⟨hD, fun k q hk => ?_⟩⟩
  match k, hk with
  | 0, hk => cases hk; exact ⟨a0, b0⟩
  | 1, hk => cases hk; exact ⟨a1, b1⟩
  | 2, hk => cases hk; exact ⟨a2, b2⟩
  | 3, hk => cases hk; exact ⟨a3, b3⟩
  | 4, hk => cases hk; exact ⟨a4, b4⟩
  | k + 5, hk => cases hk
set_option maxRecDepth 20000 in
theorem st_MOST_Y {args : Array Value} {s : State} {A : Nat → Prop} (hts : ∀ w ∈ lw_tbl, w.before args s = true) (hg : (Jvm.Cond.and given_1 narrow_1).before args s = true) (hA : ∀ a : Nat, a < s.heap.size → ¬ A a) : ∃ t : Nat, va_Z "OddHours" "MOST_Y" "[I" (.ref t) A s s.heap ∧ va_T .int t 12 (fun k => .int (stY k)) A s s.heap := by
  have hs := flat_of_before _ hg
  obtain ⟨t, h1, h2⟩ := va_Tof (args := args) (s := s) (tm := Term.static "OddHours" "MOST_Y" "[I") (ty := .int) (N := 12) (f := fun k => .int (stY k)) (A := A) (by decide) (hs _ (by decide +kernel)) (va_eqt (hs _ (by decide +kernel))) (fun j hj => by
    match j, hj with
    | 0, _ => exact va_eqt (hs _ (by decide +kernel))
    | 1, _ => exact va_eqt (hs _ (by decide +kernel))
    | 2, _ => exact va_eqt (hs _ (by decide +kernel))
    | 3, _ => exact va_eqt (hs _ (by decide +kernel))
    | 4, _ => exact va_eqt (hs _ (by decide +kernel))
    | 5, _ => exact va_eqt (hs _ (by decide +kernel))
    | 6, _ => exact va_eqt (hs _ (by decide +kernel))
    | 7, _ => exact va_eqt (hs _ (by decide +kernel))
    | 8, _ => exact va_eqt (hs _ (by decide +kernel))
    | 9, _ => exact va_eqt (hs _ (by decide +kernel))
    | 10, _ => exact va_eqt (hs _ (by decide +kernel))
    | 11, _ => exact va_eqt (hs _ (by decide +kernel))) hA
  exact ⟨t, va_Zof (hts _ (il_t3 (List.mem_of_getElem? (i := 82) rfl))) (hts _ (il_t1 (List.mem_of_getElem? (i := 1) rfl))) h1 hA, h2⟩
set_option maxRecDepth 20000 in
theorem st_MOST_X {args : Array Value} {s : State} {A : Nat → Prop} (hts : ∀ w ∈ lw_tbl, w.before args s = true) (hg : (Jvm.Cond.and given_1 narrow_1).before args s = true) (hA : ∀ a : Nat, a < s.heap.size → ¬ A a) : ∃ t : Nat, va_Z "OddHours" "MOST_X" "[I" (.ref t) A s s.heap ∧ va_T .int t 12 (fun k => .int (stX k)) A s s.heap := by
  have hs := flat_of_before _ hg
  obtain ⟨t, h1, h2⟩ := va_Tof (args := args) (s := s) (tm := Term.static "OddHours" "MOST_X" "[I") (ty := .int) (N := 12) (f := fun k => .int (stX k)) (A := A) (by decide) (hs _ (by decide +kernel)) (va_eqt (hs _ (by decide +kernel))) (fun j hj => by
    match j, hj with
    | 0, _ => exact va_eqt (hs _ (by decide +kernel))
    | 1, _ => exact va_eqt (hs _ (by decide +kernel))
    | 2, _ => exact va_eqt (hs _ (by decide +kernel))
    | 3, _ => exact va_eqt (hs _ (by decide +kernel))
    | 4, _ => exact va_eqt (hs _ (by decide +kernel))
    | 5, _ => exact va_eqt (hs _ (by decide +kernel))
    | 6, _ => exact va_eqt (hs _ (by decide +kernel))
    | 7, _ => exact va_eqt (hs _ (by decide +kernel))
    | 8, _ => exact va_eqt (hs _ (by decide +kernel))
    | 9, _ => exact va_eqt (hs _ (by decide +kernel))
    | 10, _ => exact va_eqt (hs _ (by decide +kernel))
    | 11, _ => exact va_eqt (hs _ (by decide +kernel))) hA
  exact ⟨t, va_Zof (hts _ (il_t3 (List.mem_of_getElem? (i := 86) rfl))) (hts _ (il_t1 (List.mem_of_getElem? (i := 1) rfl))) h1 hA, h2⟩
set_option maxRecDepth 20000 in
theorem st_LEAST_X {args : Array Value} {s : State} {A : Nat → Prop} (hts : ∀ w ∈ lw_tbl, w.before args s = true) (hg : (Jvm.Cond.and given_1 narrow_1).before args s = true) (hA : ∀ a : Nat, a < s.heap.size → ¬ A a) : ∃ t : Nat, va_Z "OddHours" "LEAST_X" "[I" (.ref t) A s s.heap ∧ va_T .int t 12 (fun k => .int (stL k)) A s s.heap := by
  have hs := flat_of_before _ hg
  obtain ⟨t, h1, h2⟩ := va_Tof (args := args) (s := s) (tm := Term.static "OddHours" "LEAST_X" "[I") (ty := .int) (N := 12) (f := fun k => .int (stL k)) (A := A) (by decide) (hs _ (by decide +kernel)) (va_eqt (hs _ (by decide +kernel))) (fun j hj => by
    match j, hj with
    | 0, _ => exact va_eqt (hs _ (by decide +kernel))
    | 1, _ => exact va_eqt (hs _ (by decide +kernel))
    | 2, _ => exact va_eqt (hs _ (by decide +kernel))
    | 3, _ => exact va_eqt (hs _ (by decide +kernel))
    | 4, _ => exact va_eqt (hs _ (by decide +kernel))
    | 5, _ => exact va_eqt (hs _ (by decide +kernel))
    | 6, _ => exact va_eqt (hs _ (by decide +kernel))
    | 7, _ => exact va_eqt (hs _ (by decide +kernel))
    | 8, _ => exact va_eqt (hs _ (by decide +kernel))
    | 9, _ => exact va_eqt (hs _ (by decide +kernel))
    | 10, _ => exact va_eqt (hs _ (by decide +kernel))
    | 11, _ => exact va_eqt (hs _ (by decide +kernel))) hA
  exact ⟨t, va_Zof (hts _ (il_t3 (List.mem_of_getElem? (i := 84) rfl))) (hts _ (il_t1 (List.mem_of_getElem? (i := 1) rfl))) h1 hA, h2⟩
theorem st_N {args : Array Value} {s : State} (hts : ∀ w ∈ lw_tbl, w.before args s = true) : (∀ q ∈ nwL, va_Nw (.methodLinkNest q.1 q.2.1 q.2.2.1 q.2.2.2) s) ∧ ∀ q ∈ nwF, va_Nw (.fieldLinkNest q.1 q.2.1 q.2.2.1 q.2.2.2.1 q.2.2.2.2.1 q.2.2.2.2.2) s := by
  refine ⟨?_, ?_⟩
  · exact List.forall_mem_cons.mpr ⟨va_Nw.of rfl (hts _ (il_t1 (List.mem_of_getElem? (i := 31) rfl))), List.forall_mem_cons.mpr ⟨va_Nw.of rfl (hts _ (il_t1 (List.mem_of_getElem? (i := 74) rfl))), List.forall_mem_cons.mpr ⟨va_Nw.of rfl (hts _ (il_t1 (List.mem_of_getElem? (i := 93) rfl))), List.forall_mem_cons.mpr ⟨va_Nw.of rfl (hts _ (il_t1 (List.mem_of_getElem? (i := 144) rfl))), List.forall_mem_cons.mpr ⟨va_Nw.of rfl (hts _ (il_t1 (List.mem_of_getElem? (i := 230) rfl))), List.forall_mem_cons.mpr ⟨va_Nw.of rfl (hts _ (il_t3 (List.mem_of_getElem? (i := 146) rfl))), fun _ h => absurd h List.not_mem_nil⟩⟩⟩⟩⟩⟩
  · exact List.forall_mem_cons.mpr ⟨va_Nw.of rfl (hts _ (il_t4 (List.mem_of_getElem? (i := 36) rfl))), List.forall_mem_cons.mpr ⟨va_Nw.of rfl (hts _ (il_t4 (List.mem_of_getElem? (i := 41) rfl))), fun _ h => absurd h List.not_mem_nil⟩⟩
theorem st_X {args : Array Value} {s : State} {A : Nat → Prop} (hts : ∀ w ∈ lw_tbl, w.before args s = true) (hg : (Jvm.Cond.and given_1 narrow_1).before args s = true) (hA : ∀ a : Nat, a < s.heap.size → ¬ A a) : ∃ G : Gl, va_K G.1 classes (tyG G) s ∧ Sx G A s s.heap := by
  obtain ⟨D, a, hK⟩ := st_K hts
  obtain ⟨y, y1, y2⟩ := st_MOST_Y hts hg hA
  obtain ⟨x, x1, x2⟩ := st_MOST_X hts hg hA
  obtain ⟨z, z1, z2⟩ := st_LEAST_X hts hg hA
  exact ⟨(D, a, fun k => match k with | 0 => y | 1 => x | _ => z), hK _, ⟨y1, y2⟩, ⟨x1, x2⟩, ⟨z1, z2⟩, ⟨va_AO.of (hts _ (il_t1 (List.mem_of_getElem? (i := 79) rfl))), va_AO.of (hts _ (il_t1 (List.mem_of_getElem? (i := 91) rfl)))⟩, (st_N hts).1, (st_N hts).2⟩
