section VR
variable {X : Mx} {l : Launch} {G : Gl} {A : Nat → Prop} {own : String} {cc : ByteArray} {nL : Nat} {ret : Option FieldType} {R : Room} {Q : State → Prop} {n : Nat} {ad : Nat → Nat} {ce sl : Nat} {E : Nat → va_E} {pc : Nat} {lv lv' : List (Nat × Value)} {st : List Value}
theorem v_eq {x y : Int32} (h : x = y) (k : V X G A nL Q n ad ce sl E pc lv (.int y :: st)) : V X G A nL Q n ad ce sl E pc lv (.int x :: st) := by rw [h]; exact k
theorem v_eql {x y : Int64} (h : x = y) (k : V X G A nL Q n ad ce sl E pc lv (.long y :: st)) : V X G A nL Q n ad ce sl E pc lv (.long x :: st) := by rw [h]; exact k
theorem v_lushr (C : Cx X l G A own cc nL ret R) {x v : Int64} {y : Int32} (hd : decode cc pc = .ok (.lushr, 1)) (hv : (x.toUInt64 >>> (y.toInt64.toUInt64 &&& Int64.toUInt64 63)).toInt64 = v) (k : V X G A nL Q n ad ce sl E (pc + 1) lv (.long v :: st)) : V X G A nL Q n ad ce sl E pc lv (.int y :: .long x :: st) := fun H locs ls hP hD hS hl => lv_lushr C.1 C.2.1 hd hv (k H locs ls hP hD hS hl)
theorem v_zast (C : Cx X l G A own cc nL ret R) (b : Nat) {N : Nat} {f : Nat → Int32} {i v : Int32} (hd : decode cc pc = .ok (.bastore, 1)) (hbn : b < n) (hE : E b = aZ G N f) (hin : vp_in i N) (hz : vp_nar .boolean v = v) (kk : ∀ E1 : Nat → va_E, E1 b = aZ G N (upd f i.toNatClampNeg v) → (∀ j, j ≠ b → E1 j = E j) → V X G A nL Q n ad ce sl E1 (pc + 1) lv st) : V X G A nL Q n ad ce sl E pc lv (.int v :: .int i :: .ref (ad b) :: st) := fun H locs ls hP hD hS hl => va_zast C.1 C.2.1 C.2.2.2.2.2.1 hP hD hS b 2 (wl_e hbn hE) rfl hin hd (fun H1 locs1 hP1 hD1 hS1 => by
    rw [wl_set, hz] at hP1 hD1
    exact kk (va_up E b (aZ G N (upd f i.toNatClampNeg v))) (by simp [va_up]) (fun j hj => by simp [va_up, hj]) H1 locs1 ls hP1 hD1 hS1 hl)
theorem v_cVp (C : Cx X l G A own cc nL ret R) {index : Nat} {y : MethodName} {cy : ByteArray} {maxL fr lo : Nat} {rt : FieldType} {P : Int32 → Prop} {As rest : List Value} (hd : decode cc pc = .ok (.invokevirtual index, 3)) (hl0 : Cond.methodLink own index y ∈ tb) (hm : MV y cy maxL (some rt) As.length) (b : Nat) {ci : Nat} {r0 : Nat → Option Nat} {i0 : Nat → Int32} (hbn : b < n) (hE : E b = ob ci r0 i0) (hci : ci < 10) (hcy : clR ci = y.cls) (hc : CtI l G y cy maxL rt fr lo n ad E (.ref (ad b) :: As) (fun r E' => P r ∧ E = E')) (hR : fr + 1 ≤ R.frames ∧ 8 + (maxL + 11) + lo ≤ R.locals) (hst : st = As.reverse ++ .ref (ad b) :: rest) (hW : (rest.map fun v => v.category).sum ≤ 8) (hf : ce ≤ R.cells ∧ sl ≤ R.slots) (kk : ∀ r : Int32, P r → V X G A nL Q n ad ce sl E (pc + 3) lv (.int r :: rest)) : V X G A nL Q n ad ce sl E pc lv st :=
  v_cVi C hd hl0 hm b hbn hE hci hcy hc hR hst hW hf (fun r E1 h => by obtain ⟨h1, h2⟩ := h; subst h2; exact kk r h1)
theorem v_cSp (C : Cx X l G A own cc nL ret R) {index : Nat} {y : MethodName} {cy : ByteArray} {maxL fr lo : Nat} {rt : FieldType} {P : Int32 → Prop} {As rest : List Value} (hd : decode cc pc = .ok (.invokestatic index, 3)) (hl0 : Cond.methodLink own index y ∈ tb) (hm : MS y cy maxL (some rt) As.length) (hc : CtI l G y cy maxL rt fr lo n ad E As (fun r E' => P r ∧ E = E')) (hR : fr + 1 ≤ R.frames ∧ 8 + (maxL + 11) + lo ≤ R.locals) (hst : st = As.reverse ++ rest) (hW : (rest.map fun v => v.category).sum ≤ 8) (hf : ce ≤ R.cells ∧ sl ≤ R.slots) (kk : ∀ r : Int32, P r → V X G A nL Q n ad ce sl E (pc + 3) lv (.int r :: rest)) : V X G A nL Q n ad ce sl E pc lv st :=
  v_cSi C hd hl0 hm hc hR hst hW hf (fun r E1 h => by obtain ⟨h1, h2⟩ := h; subst h2; exact kk r h1)
theorem v_cSNp (C : Cx X l G A own cc nL ret R) {index : Nat} {y : MethodName} {cy : ByteArray} {maxL fr lo : Nat} {rt : FieldType} {host : String} {P : Int32 → Prop} {As rest : List Value} (hd : decode cc pc = .ok (.invokestatic index, 3)) (hl0 : (own, index, y, host) ∈ nwL) (hm : MS y cy maxL (some rt) As.length) (hc : CtI l G y cy maxL rt fr lo n ad E As (fun r E' => P r ∧ E = E')) (hR : fr + 1 ≤ R.frames ∧ 8 + (maxL + 11) + lo ≤ R.locals) (hst : st = As.reverse ++ rest) (hW : (rest.map fun v => v.category).sum ≤ 8) (hf : ce ≤ R.cells ∧ sl ≤ R.slots) (kk : ∀ r : Int32, P r → V X G A nL Q n ad ce sl E (pc + 3) lv (.int r :: rest)) : V X G A nL Q n ad ce sl E pc lv st :=
  v_cSNi C hd hl0 hm hc hR hst hW hf (fun r E1 h => by obtain ⟨h1, h2⟩ := h; subst h2; exact kk r h1)
theorem v_cVr (C : Cx X l G A own cc nL ret R) {index : Nat} {y : MethodName} {cy : ByteArray} {maxL fr lo : Nat} {rt : FieldType} {P : Option Nat → Prop} {As rest : List Value} (hd : decode cc pc = .ok (.invokevirtual index, 3)) (hl0 : Cond.methodLink own index y ∈ tb) (hm : MV y cy maxL (some rt) As.length) (b : Nat) {ci : Nat} {r0 : Nat → Option Nat} {i0 : Nat → Int32} (hbn : b < n) (hE : E b = ob ci r0 i0) (hci : ci < 10) (hcy : clR ci = y.cls) (hc : CtQ l G y cy maxL rt fr lo n ad E (.ref (ad b) :: As) (fun r E' => P r ∧ E = E')) (hR : fr + 1 ≤ R.frames ∧ 8 + (maxL + 11) + lo ≤ R.locals) (hst : st = As.reverse ++ .ref (ad b) :: rest) (hW : (rest.map fun v => v.category).sum ≤ 8) (hf : ce ≤ R.cells ∧ sl ≤ R.slots) (kk : ∀ r : Option Nat, P r → V X G A nL Q n ad ce sl E (pc + 3) lv (va_rf r :: rest)) : V X G A nL Q n ad ce sl E pc lv st :=
  v_cVq C hd hl0 hm b hbn hE hci hcy hc hR hst hW hf (fun r E1 h => by obtain ⟨h1, h2⟩ := h; subst h2; exact kk r h1)
theorem v_obj (C : Cx X l G A own cc nL ret R) {index : Nat} {a : Nat} (hd : decode cc pc = .ok (.invokespecial index, 3)) (hl0 : Cond.methodLink own index Lib.objectInit ∈ tb) (hi0 : Cond.instanceMethod Lib.objectInit ∈ tb) (hc0 : Cond.code Lib.objectInit ⟨#[0xb1]⟩ 1 none ∈ tb) (hR : 1 ≤ R.frames ∧ (st.map fun v => v.category).sum + 12 ≤ R.locals) (k : V X G A nL Q n ad ce sl E (pc + 3) lv st) : V X G A nL Q n ad ce sl E pc lv (.ref a :: st) := fun H locs ls hP hD hS hl => by
  have hRx := C.2.2.2.2.2.2.2.2.2.2.2
  rw [← hRx] at hR
  exact W.objInit C.1 C.2.1 C.2.2.2.1 (C.2.2.2.2.1 _ hl0) (C.2.2.2.2.1 _ hi0) (C.2.2.2.2.1 _ hc0) rfl (by rw [C.2.2.1]; exact hl.1) rfl hd hR.1 (by show 2 * 0 + _ + 12 ≤ _; have := hR.2; omega) (k H locs ls hP hD hS hl)
theorem v_new (C : Cx X l G A own cc nL ret R) {index ci : Nat} {r : Nat → Option Nat} {i : Nat → Int32} (hd : decode cc pc = .ok (.new index, 3)) (hci : ci < 10) (hcl : Cond.classLink own index (clR ci) ∈ tb) (hinst : Cond.instantiable (clR ci) (clN ci) ∈ tb) (hini : Cond.initialized (clR ci) ∈ tb) (hfs : ∀ j, j < clN ci → defaultValue (clY ci j) = vp_V (fl (clM ci) (clN ci) r i) j) (hce : ce + 1 ≤ R.cells) (hsl : sl + clN ci ≤ R.slots)
    (kk : ∀ q : Nat, V X G A nL Q (n + 1) (va_up ad n q) (ce + 1) (sl + clN ci) (va_up E n (ob ci r i)) (pc + 3) lv (.ref q :: st)) : V X G A nL Q n ad ce sl E pc lv st := fun H locs ls hP hD hS hl => by
  have hRx := C.2.2.2.2.2.2.2.2.2.2.2
  rw [← hRx] at hce hsl
  exact va_new (C := clR ci) (T := clT ci) (N := clN ci) (ci := ci) (fs := fl (clM ci) (clN ci) r i) C.1 C.2.1 C.2.2.2.2.1 (cl_in hci) (clY ci) (cl_ty hci) C.2.2.2.1 (C.2.2.2.2.1 _ hcl) (C.2.2.2.2.1 _ hinst) (C.2.2.2.2.1 _ hini) C.2.2.2.2.2.1 hP hD hS C.2.2.2.2.2.2.1 (cl_ok hci) hfs hce hsl hd (fun q H1 hP1 hD1 hS1 => by
    rw [wl_push] at hP1 hD1
    exact kk q H1 locs ls hP1 hD1 hS1 hl)
theorem ty_same {U : State} {D : va_G} {tys : List (ClassId × FieldType)} {cA cB : ClassId} {ty : FieldType} {j k : Nat} (h : va_K D classes tys U) (hj : tys[j]? = some (cA, ty)) (hk : tys[k]? = some (cB, ty)) : cA = cB := by
  have h1 := (h.2 j _ hj).2
  have h2 := (h.2 k _ hk).2
  cases ty with
  | object C =>
    obtain ⟨_, _, _, _, _, a⟩ := h1
    obtain ⟨_, _, _, _, _, b⟩ := h2
    exact Option.some.inj (a.symm.trans b)
  | _ => exact Option.some.inj (Eq.trans (Eq.symm h1) h2)
theorem v_newI (C : Cx X l G A own cc nL ret R) {N : Nat} {a : Int32} (hd : decode cc pc = .ok (.newarray .int, 2)) (hac : Cond.arrayClass .int ∈ tb) (ha : ¬ a < 0) (hN : a.toNatClampNeg = N) (hbytes : N * componentBytes .int ≤ 536870912) (hce : ce + 1 ≤ R.cells) (hsl : sl + N ≤ R.slots)
    (kk : ∀ q : Nat, V X G A nL Q (n + 1) (va_up ad n q) (ce + 1) (sl + N) (va_up E n (aI G N (fun _ => 0))) (pc + 2) lv (.ref q :: st)) : V X G A nL Q n ad ce sl E pc lv (.int a :: st) := fun H locs ls hP hD hS hl => by
  have hRx := C.2.2.2.2.2.2.2.2.2.2.2
  rw [← hRx] at hce hsl
  refine va_newa (atype := .int) (a0 := (N, .inl (fun _ => 0))) C.1 C.2.1 (C.2.2.2.2.1 _ hac) rfl C.2.2.2.2.2.1 hP hD hS C.2.2.2.2.2.2.1 (fun cA => rfl) ha hN hbytes hce hsl hd (fun q cA H1 hK1 hP1 hD1 hS1 => ?_)
  have he : cA = G.2.1 0 := ty_same (j := 5) (k := 0) hK1 rfl rfl
  subst he
  rw [wl_push] at hP1 hD1
  exact kk q H1 locs ls hP1 hD1 hS1 hl
theorem v_newJ (C : Cx X l G A own cc nL ret R) {N : Nat} {a : Int32} (hd : decode cc pc = .ok (.newarray .long, 2)) (hac : Cond.arrayClass .long ∈ tb) (ha : ¬ a < 0) (hN : a.toNatClampNeg = N) (hbytes : N * componentBytes .long ≤ 536870912) (hce : ce + 1 ≤ R.cells) (hsl : sl + N ≤ R.slots)
    (kk : ∀ q : Nat, V X G A nL Q (n + 1) (va_up ad n q) (ce + 1) (sl + N) (va_up E n (aJ G N (fun _ => 0))) (pc + 2) lv (.ref q :: st)) : V X G A nL Q n ad ce sl E pc lv (.int a :: st) := fun H locs ls hP hD hS hl => by
  have hRx := C.2.2.2.2.2.2.2.2.2.2.2
  rw [← hRx] at hce hsl
  refine va_newa (atype := .long) (a0 := (N, .inr (.inl (fun _ => 0)))) C.1 C.2.1 (C.2.2.2.2.1 _ hac) rfl C.2.2.2.2.2.1 hP hD hS C.2.2.2.2.2.2.1 (fun cA => rfl) ha hN hbytes hce hsl hd (fun q cA H1 hK1 hP1 hD1 hS1 => ?_)
  have he : cA = G.2.1 1 := ty_same (j := 5) (k := 1) hK1 rfl rfl
  subst he
  rw [wl_push] at hP1 hD1
  exact kk q H1 locs ls hP1 hD1 hS1 hl
theorem v_newZ (C : Cx X l G A own cc nL ret R) {N : Nat} {a : Int32} (hd : decode cc pc = .ok (.newarray .boolean, 2)) (hac : Cond.arrayClass .boolean ∈ tb) (ha : ¬ a < 0) (hN : a.toNatClampNeg = N) (hbytes : N * componentBytes .boolean ≤ 536870912) (hce : ce + 1 ≤ R.cells) (hsl : sl + N ≤ R.slots)
    (kk : ∀ q : Nat, V X G A nL Q (n + 1) (va_up ad n q) (ce + 1) (sl + N) (va_up E n (aZ G N (fun _ => 0))) (pc + 2) lv (.ref q :: st)) : V X G A nL Q n ad ce sl E pc lv (.int a :: st) := fun H locs ls hP hD hS hl => by
  have hRx := C.2.2.2.2.2.2.2.2.2.2.2
  rw [← hRx] at hce hsl
  refine va_newa (atype := .boolean) (a0 := (N, .inl (fun _ => 0))) C.1 C.2.1 (C.2.2.2.2.1 _ hac) rfl C.2.2.2.2.2.1 hP hD hS C.2.2.2.2.2.2.1 (fun cA => rfl) ha hN hbytes hce hsl hd (fun q cA H1 hK1 hP1 hD1 hS1 => ?_)
  have he : cA = G.2.1 2 := ty_same (j := 5) (k := 2) hK1 rfl rfl
  subst he
  rw [wl_push] at hP1 hD1
  exact kk q H1 locs ls hP1 hD1 hS1 hl
theorem v_newAZ (C : Cx X l G A own cc nL ret R) {N index : Nat} {a : Int32} (hd : decode cc pc = .ok (.anewarray index, 3)) (hcl : Cond.classLink own index "OddHours$Zone" ∈ tb) (ha : ¬ a < 0) (hN : a.toNatClampNeg = N) (hbytes : N * 4 ≤ 536870912) (hce : ce + 1 ≤ R.cells) (hsl : sl + N ≤ R.slots)
    (kk : ∀ q : Nat, V X G A nL Q (n + 1) (va_up ad n q) (ce + 1) (sl + N) (va_up E n (aQ G 3 N (fun _ => none))) (pc + 3) lv (.ref q :: st)) : V X G A nL Q n ad ce sl E pc lv (.int a :: st) := fun H locs ls hP hD hS hl => by
  have hRx := C.2.2.2.2.2.2.2.2.2.2.2
  rw [← hRx] at hce hsl
  refine va_newq C.1 C.2.1 C.2.2.2.1 (C.2.2.2.2.1 _ hcl) C.2.2.2.2.2.2.2.1.2.2.2.1.1 C.2.2.2.2.2.1 hP hD hS C.2.2.2.2.2.2.1 ha hN hbytes hce hsl hd (fun q cA H1 hK1 hP1 hD1 hS1 => ?_)
  have he : cA = G.2.1 3 := ty_same (j := 5) (k := 3) hK1 rfl rfl
  subst he
  rw [wl_push] at hP1 hD1
  exact kk q H1 locs ls hP1 hD1 hS1 hl
theorem v_newAP (C : Cx X l G A own cc nL ret R) {N index : Nat} {a : Int32} (hd : decode cc pc = .ok (.anewarray index, 3)) (hcl : Cond.classLink own index "OddHours$Program" ∈ tb) (ha : ¬ a < 0) (hN : a.toNatClampNeg = N) (hbytes : N * 4 ≤ 536870912) (hce : ce + 1 ≤ R.cells) (hsl : sl + N ≤ R.slots)
    (kk : ∀ q : Nat, V X G A nL Q (n + 1) (va_up ad n q) (ce + 1) (sl + N) (va_up E n (aQ G 4 N (fun _ => none))) (pc + 3) lv (.ref q :: st)) : V X G A nL Q n ad ce sl E pc lv (.int a :: st) := fun H locs ls hP hD hS hl => by
  have hRx := C.2.2.2.2.2.2.2.2.2.2.2
  rw [← hRx] at hce hsl
  refine va_newq C.1 C.2.1 C.2.2.2.1 (C.2.2.2.2.1 _ hcl) C.2.2.2.2.2.2.2.1.2.2.2.1.2 C.2.2.2.2.2.1 hP hD hS C.2.2.2.2.2.2.1 ha hN hbytes hce hsl hd (fun q cA H1 hK1 hP1 hD1 hS1 => ?_)
  have he : cA = G.2.1 4 := ty_same (j := 5) (k := 4) hK1 rfl rfl
  subst he
  rw [wl_push] at hP1 hD1
  exact kk q H1 locs ls hP1 hD1 hS1 hl
theorem v_astZ (C : Cx X l G A own cc nL ret R) (b o : Nat) {N ci : Nat} {f : Nat → Option Nat} {r : Nat → Option Nat} {i0 : Nat → Int32} {i : Int32} (hd : decode cc pc = .ok (.aastore, 1)) (hbn : b < n) (hE : E b = aQ G 3 N f) (hon : o < n) (hO : E o = ob ci r i0) (hci : ci < 10) (hcn : (tyG G)[3]? = some (G.2.1 3, .object (clR ci))) (hin : vp_in i N)
    (kk : ∀ E1 : Nat → va_E, E1 b = aQ G 3 N (va_up f i.toNatClampNeg (some (ad o))) → (∀ j, j ≠ b → E1 j = E j) → V X G A nL Q n ad ce sl E1 (pc + 1) lv st) : V X G A nL Q n ad ce sl E pc lv (.ref (ad o) :: .int i :: .ref (ad b) :: st) := fun H locs ls hP hD hS hl => va_astq C.1 C.2.1 C.2.2.2.2.2.1 hP hD hS b 3 o ci (wl_e hbn hE) hcn (wl_e hon hO) (cl_ok hci) hin hd (fun H1 locs1 hP1 hD1 hS1 => by
    rw [wl_set] at hP1 hD1
    exact kk (va_up E b (aQ G 3 N (va_up f i.toNatClampNeg (some (ad o))))) (by simp [va_up]) (fun j hj => by simp [va_up, hj]) H1 locs1 ls hP1 hD1 hS1 hl)
theorem v_astP (C : Cx X l G A own cc nL ret R) (b o : Nat) {N ci : Nat} {f : Nat → Option Nat} {r : Nat → Option Nat} {i0 : Nat → Int32} {i : Int32} (hd : decode cc pc = .ok (.aastore, 1)) (hbn : b < n) (hE : E b = aQ G 4 N f) (hon : o < n) (hO : E o = ob ci r i0) (hci : ci < 10) (hcn : (tyG G)[4]? = some (G.2.1 4, .object (clR ci))) (hin : vp_in i N)
    (kk : ∀ E1 : Nat → va_E, E1 b = aQ G 4 N (va_up f i.toNatClampNeg (some (ad o))) → (∀ j, j ≠ b → E1 j = E j) → V X G A nL Q n ad ce sl E1 (pc + 1) lv st) : V X G A nL Q n ad ce sl E pc lv (.ref (ad o) :: .int i :: .ref (ad b) :: st) := fun H locs ls hP hD hS hl => va_astq C.1 C.2.1 C.2.2.2.2.2.1 hP hD hS b 4 o ci (wl_e hbn hE) hcn (wl_e hon hO) (cl_ok hci) hin hd (fun H1 locs1 hP1 hD1 hS1 => by
    rw [wl_set] at hP1 hD1
    exact kk (va_up E b (aQ G 4 N (va_up f i.toNatClampNeg (some (ad o))))) (by simp [va_up]) (fun j hj => by simp [va_up, hj]) H1 locs1 ls hP1 hD1 hS1 hl)
theorem v_cI (C : Cx X l G A own cc nL ret R) {index : Nat} {y : MethodName} {cy : ByteArray} {maxL fr lo mk mw n' : Nat} {post : (Nat → Nat) × (Nat → va_E) → Prop} {As rest : List Value} (b : Nat) (hd : decode cc pc = .ok (.invokespecial index, 3)) (hl0 : Cond.methodLink own index y ∈ tb) (hm : MI y cy maxL As.length) (hc : CtN l G y cy maxL fr lo mk mw n n' ad E (.ref (ad b) :: As) post) (hR : fr + 1 ≤ R.frames ∧ 8 + (maxL + 11) + lo ≤ R.locals) (hst : st = As.reverse ++ .ref (ad b) :: rest) (hW : (rest.map fun v => v.category).sum ≤ 8) (hf : ce + mk ≤ R.cells ∧ sl + mw ≤ R.slots) (kk : ∀ (ad1 : Nat → Nat) (E1 : Nat → va_E), post (ad1, E1) → V X G A nL Q n' ad1 (ce + mk) (sl + mw) E1 (pc + 3) lv rest) : V X G A nL Q n ad ce sl E pc lv st := by
  intro H locs ls hP hD hS hl
  subst hst
  have hlx := C.2.2.2.2.2.2.2.2.2.2.1
  have hRx := C.2.2.2.2.2.2.2.2.2.2.2
  rw [← hlx] at hc
  rw [← hRx] at hR hf
  have hFc := wl_free hD hS C.2.2.2.2.2.2.1
  refine va_callv (va_runI (As := As) (rest := rest) ⟨C.1, C.2.1, C.2.2.1, C.2.2.2.1, C.2.2.2.2.1⟩ (hc H.size) (cwI As.length C.2.2.2.2.1 (tb_code hm.1) rfl rfl rfl (C.2.2.2.2.1 _ hm.2.1) (C.2.2.2.2.1 _ hl0) (C.2.2.2.2.1 _ hm.2.2.1) hm.2.2.2.1 hm.2.2.2.2 hR) ⟨Pre.blind, fun U hU hW0 => ⟨rfl, tb_pre C hP hD hS U hU hW0⟩⟩ rfl rfl hl.1 rfl (by show 2 * 0 + _ ≤ 8; omega) hd ⟨hf.1, hf.2⟩) hS (fun q _ h => hFc q h) hFc (fun u t H1 locs1 ht hvm hw hB hz hk hS1 => ?_)
  obtain ⟨hP1, hK1, hD1⟩ := hB
  rw [ht] at hP1
  exact kk u.1 u.2 hw H1 locs1 ls hP1 (hD1.weaken (fun _ _ _ h => hFc _ h)) hS1 hl
theorem v_cIN (C : Cx X l G A own cc nL ret R) {index : Nat} {y : MethodName} {cy : ByteArray} {maxL fr lo mk mw n' : Nat} {post : (Nat → Nat) × (Nat → va_E) → Prop} {As rest : List Value} (b : Nat) (hd : decode cc pc = .ok (.invokespecial index, 3)) {host : String} (hl0 : (own, index, y, host) ∈ nwL) (hm : MI y cy maxL As.length) (hc : CtN l G y cy maxL fr lo mk mw n n' ad E (.ref (ad b) :: As) post) (hR : fr + 1 ≤ R.frames ∧ 8 + (maxL + 11) + lo ≤ R.locals) (hst : st = As.reverse ++ .ref (ad b) :: rest) (hW : (rest.map fun v => v.category).sum ≤ 8) (hf : ce + mk ≤ R.cells ∧ sl + mw ≤ R.slots) (kk : ∀ (ad1 : Nat → Nat) (E1 : Nat → va_E), post (ad1, E1) → V X G A nL Q n' ad1 (ce + mk) (sl + mw) E1 (pc + 3) lv rest) : V X G A nL Q n ad ce sl E pc lv st := by
  intro H locs ls hP hD hS hl
  subst hst
  have hlx := C.2.2.2.2.2.2.2.2.2.2.1
  have hRx := C.2.2.2.2.2.2.2.2.2.2.2
  rw [← hlx] at hc
  rw [← hRx] at hR hf
  have hFc := wl_free hD hS C.2.2.2.2.2.2.1
  refine va_callv (va_runIN (As := As) (rest := rest) ⟨C.1, C.2.1, C.2.2.1, C.2.2.2.1, C.2.2.2.2.1⟩ (hc H.size) ⟨va_cnB As.length C.2.2.2.2.1 (tb_code hm.1) rfl rfl rfl (C.2.2.2.2.2.2.2.1.2.2.2.2.1 _ hl0) (C.2.2.2.2.1 _ hm.2.1) hm.2.2.2.2 hR, hm.2.2.2.1, C.2.2.2.2.1 _ hm.2.2.1⟩ ⟨Pre.blind, fun U hU hW0 => ⟨rfl, tb_pre C hP hD hS U hU hW0⟩⟩ rfl rfl hl.1 rfl (by show 2 * 0 + _ ≤ 8; omega) hd ⟨hf.1, hf.2⟩) hS (fun q _ h => hFc q h) hFc (fun u t H1 locs1 ht hvm hw hB hz hk hS1 => ?_)
  obtain ⟨hP1, hK1, hD1⟩ := hB
  rw [ht] at hP1
  exact kk u.1 u.2 hw H1 locs1 ls hP1 (hD1.weaken (fun _ _ _ h => hFc _ h)) hS1 hl
theorem v_cVm (C : Cx X l G A own cc nL ret R) {index : Nat} {y : MethodName} {cy : ByteArray} {maxL fr lo mk mw n' : Nat} {rt : FieldType} {post : Int32 → (Nat → Nat) × (Nat → va_E) → Prop} {As rest : List Value} (hd : decode cc pc = .ok (.invokevirtual index, 3)) (hl0 : Cond.methodLink own index y ∈ tb) (hm : MV y cy maxL (some rt) As.length) (b : Nat) {ci : Nat} {r0 : Nat → Option Nat} {i0 : Nat → Int32} (hbn : b < n) (hE : E b = ob ci r0 i0) (hci : ci < 10) (hcy : clR ci = y.cls) (hc : CtM l G y cy maxL rt fr lo mk mw n n' ad E (.ref (ad b) :: As) post) (hR : fr + 1 ≤ R.frames ∧ 8 + (maxL + 11) + lo ≤ R.locals) (hst : st = As.reverse ++ .ref (ad b) :: rest) (hW : (rest.map fun v => v.category).sum ≤ 8) (hf : ce + mk ≤ R.cells ∧ sl + mw ≤ R.slots) (kk : ∀ (r : Int32) (ad1 : Nat → Nat) (E1 : Nat → va_E), post r (ad1, E1) → V X G A nL Q n' ad1 (ce + mk) (sl + mw) E1 (pc + 3) lv (.int r :: rest)) : V X G A nL Q n ad ce sl E pc lv st := by
  intro H locs ls hP hD hS hl
  subst hst
  have hlx := C.2.2.2.2.2.2.2.2.2.2.1
  have hRx := C.2.2.2.2.2.2.2.2.2.2.2
  rw [← hlx] at hc
  rw [← hRx] at hR hf
  have hFc := wl_free hD hS C.2.2.2.2.2.2.1
  refine va_calli (va_runV (C := y.cls) (As := As) (rest := rest) ⟨C.1, C.2.1, C.2.2.1, C.2.2.2.1, C.2.2.2.2.1⟩ (hc H.size) (cwV As.length C.2.2.2.2.1 (tb_in (fun w hw => by rcases List.mem_append.mp hw with h | h; (simp only [List.mem_cons, List.not_mem_nil, or_false] at h; rcases h with rfl | rfl | rfl | rfl; exact hl0; exact hm.2.2.1; exact hm.2.2.2.1; exact hm.2.1); exact (tb_code hm.1 w h).1)) rfl rfl rfl ⟨rfl, hm.2.2.2.2⟩ hR) ⟨Pre.blind, (by have h := va_recv C.2.2.2.2.2.1 hP (cl_ok hci) (wl_e hbn hE); rw [← hcy]; exact h), fun U hU hW0 => ⟨rfl, tb_pre C hP hD hS U hU hW0⟩⟩ rfl rfl hl.1 rfl (by show 2 * 0 + _ ≤ 8; omega) hd ⟨hf.1, hf.2⟩) hS (fun q _ h => hFc q h) hFc (fun r u t H1 locs1 ht hvm hw hB hz hk hS1 => ?_)
  obtain ⟨hP1, hK1, hD1⟩ := hB
  rw [ht] at hP1
  exact kk r u.1 u.2 hw H1 locs1 ls hP1 (hD1.weaken (fun _ _ _ h => hFc _ h)) hS1 hl
theorem v_widen {ce' sl' : Nat} (h1 : ce ≤ ce') (h2 : sl ≤ sl') (k : V X G A nL Q n ad ce' sl' E pc lv st) : V X G A nL Q n ad ce sl E pc lv st := fun H locs ls hP hD hS hl => W.widen h1 h2 (k H locs ls hP hD hS hl)
theorem v_gstY (C : Cx X l G A own cc nL ret R) {index : Nat} (hd : decode cc pc = .ok (.getstatic index, 3)) (hw : Cond.fieldLink own index "OddHours" "MOST_Y" "[I" ∈ tb) (k : V X G A nL Q n ad ce sl E (pc + 3) lv (.ref (G.2.2 0) :: st)) : V X G A nL Q n ad ce sl E pc lv st := fun H locs ls hP hD hS hl => va_gets C.1 C.2.1 C.2.2.2.2.2.2.2.1.1.1 hS C.2.2.2.1 (C.2.2.2.2.1 _ hw) (fun _ h => h) hd (k H locs ls hP hD hS hl)
theorem v_lstY (C : Cx X l G A own cc nL ret R) {i v : Int32} (hd : decode cc pc = .ok (.iaload, 1)) (hin : vp_in i 12) (hv : stY i.toNatClampNeg = v) (k : V X G A nL Q n ad ce sl E (pc + 1) lv (.int v :: st)) : V X G A nL Q n ad ce sl E pc lv (.int i :: .ref (G.2.2 0) :: st) := fun H locs ls hP hD hS hl => va_ti C.1 C.2.1 C.2.2.2.2.2.2.2.1.1.2 hS hin (by rw [hv]) hd (k H locs ls hP hD hS hl)
theorem v_gstX (C : Cx X l G A own cc nL ret R) {index : Nat} (hd : decode cc pc = .ok (.getstatic index, 3)) (hw : Cond.fieldLink own index "OddHours" "MOST_X" "[I" ∈ tb) (k : V X G A nL Q n ad ce sl E (pc + 3) lv (.ref (G.2.2 1) :: st)) : V X G A nL Q n ad ce sl E pc lv st := fun H locs ls hP hD hS hl => va_gets C.1 C.2.1 C.2.2.2.2.2.2.2.1.2.1.1 hS C.2.2.2.1 (C.2.2.2.2.1 _ hw) (fun _ h => h) hd (k H locs ls hP hD hS hl)
theorem v_lstX (C : Cx X l G A own cc nL ret R) {i v : Int32} (hd : decode cc pc = .ok (.iaload, 1)) (hin : vp_in i 12) (hv : stX i.toNatClampNeg = v) (k : V X G A nL Q n ad ce sl E (pc + 1) lv (.int v :: st)) : V X G A nL Q n ad ce sl E pc lv (.int i :: .ref (G.2.2 1) :: st) := fun H locs ls hP hD hS hl => va_ti C.1 C.2.1 C.2.2.2.2.2.2.2.1.2.1.2 hS hin (by rw [hv]) hd (k H locs ls hP hD hS hl)
theorem v_gstL (C : Cx X l G A own cc nL ret R) {index : Nat} (hd : decode cc pc = .ok (.getstatic index, 3)) (hw : Cond.fieldLink own index "OddHours" "LEAST_X" "[I" ∈ tb) (k : V X G A nL Q n ad ce sl E (pc + 3) lv (.ref (G.2.2 2) :: st)) : V X G A nL Q n ad ce sl E pc lv st := fun H locs ls hP hD hS hl => va_gets C.1 C.2.1 C.2.2.2.2.2.2.2.1.2.2.1.1 hS C.2.2.2.1 (C.2.2.2.2.1 _ hw) (fun _ h => h) hd (k H locs ls hP hD hS hl)
theorem v_lstL (C : Cx X l G A own cc nL ret R) {i v : Int32} (hd : decode cc pc = .ok (.iaload, 1)) (hin : vp_in i 12) (hv : stL i.toNatClampNeg = v) (k : V X G A nL Q n ad ce sl E (pc + 1) lv (.int v :: st)) : V X G A nL Q n ad ce sl E pc lv (.int i :: .ref (G.2.2 2) :: st) := fun H locs ls hP hD hS hl => va_ti C.1 C.2.1 C.2.2.2.2.2.2.2.1.2.2.1.2 hS hin (by rw [hv]) hd (k H locs ls hP hD hS hl)
theorem v_mmax (C : Cx X l G A own cc nL ret R) {index : Nat} {x y : Int32} (hd : decode cc pc = .ok (.invokestatic index, 3)) (hl0 : Cond.methodLink own index Lib.Math.max.name ∈ tb) (hs0 : Cond.static Lib.Math.max.name ∈ tb) (hi0 : Cond.initialized "java/lang/Math" ∈ tb) (hc0 : Cond.code Lib.Math.max.name Lib.Math.max.code 2 (some .int) ∈ tb) (hR : 1 ≤ R.frames ∧ (st.map fun v => v.category).sum + 13 ≤ R.locals) (hf : ce ≤ R.cells ∧ sl ≤ R.slots) (k : V X G A nL Q n ad ce sl E (pc + 3) lv (.int (if x < y then y else x) :: st)) : V X G A nL Q n ad ce sl E pc lv (.int y :: .int x :: st) := fun H locs ls hP hD hS hl => by
  have hRx := C.2.2.2.2.2.2.2.2.2.2.2
  rw [← hRx] at hR hf
  exact va_mmax C.1 C.2.1 (by rw [C.2.2.1]; exact hl.1.symm) C.2.2.2.1 (C.2.2.2.2.1 _ hl0) (C.2.2.2.2.1 _ hs0) (C.2.2.2.2.1 _ hi0) (C.2.2.2.2.1 _ hc0) hR.1 hR.2 hf.1 hf.2 hd (k H locs ls hP hD hS hl)
theorem v_mmin (C : Cx X l G A own cc nL ret R) {index : Nat} {x y : Int32} (hd : decode cc pc = .ok (.invokestatic index, 3)) (hl0 : Cond.methodLink own index Lib.Math.min.name ∈ tb) (hs0 : Cond.static Lib.Math.min.name ∈ tb) (hi0 : Cond.initialized "java/lang/Math" ∈ tb) (hc0 : Cond.code Lib.Math.min.name Lib.Math.min.code 2 (some .int) ∈ tb) (hR : 1 ≤ R.frames ∧ (st.map fun v => v.category).sum + 13 ≤ R.locals) (hf : ce ≤ R.cells ∧ sl ≤ R.slots) (k : V X G A nL Q n ad ce sl E (pc + 3) lv (.int (if y < x then y else x) :: st)) : V X G A nL Q n ad ce sl E pc lv (.int y :: .int x :: st) := fun H locs ls hP hD hS hl => by
  have hRx := C.2.2.2.2.2.2.2.2.2.2.2
  rw [← hRx] at hR hf
  exact va_mmin C.1 C.2.1 (by rw [C.2.2.1]; exact hl.1.symm) C.2.2.2.1 (C.2.2.2.2.1 _ hl0) (C.2.2.2.2.1 _ hs0) (C.2.2.2.2.1 _ hi0) (C.2.2.2.2.1 _ hc0) hR.1 hR.2 hf.1 hf.2 hd (k H locs ls hP hD hS hl)
theorem b_icmp_eq (C : Cx X l G A own cc nL ret R) {x y : Int32} {off a b : Int} (tgt : Nat) (hd : decode cc pc = .ok (.if_icmp .eq off, 3)) (ht : (pc : Int) + off = (tgt : Int)) (hx : x.toInt = a) (hy : y.toInt = b) (kt : a = b → V X G A nL Q n ad ce sl E tgt lv st) (kf : ¬ a = b → V X G A nL Q n ad ce sl E (pc + 3) lv st) : V X G A nL Q n ad ce sl E pc lv (.int y :: .int x :: st) := by
  subst hx; subst hy
  exact v_icmp_eq C tgt hd ht (fun h => kt (congrArg Int32.toInt h)) (fun h => kf (fun q => h (Int32.toInt_inj.mp q)))
theorem b_if_eq (C : Cx X l G A own cc nL ret R) {x : Int32} {off a : Int} (tgt : Nat) (hd : decode cc pc = .ok (.ifCond .eq off, 3)) (ht : (pc : Int) + off = (tgt : Int)) (hx : x.toInt = a) (kt : a = 0 → V X G A nL Q n ad ce sl E tgt lv st) (kf : ¬ a = 0 → V X G A nL Q n ad ce sl E (pc + 3) lv st) : V X G A nL Q n ad ce sl E pc lv (.int x :: st) := by
  subst hx
  exact v_if_eq C tgt hd ht (fun h => kt (congrArg Int32.toInt h)) (fun h => kf (fun q => h (Int32.toInt_inj.mp q)))
theorem b_icmp_ne (C : Cx X l G A own cc nL ret R) {x y : Int32} {off a b : Int} (tgt : Nat) (hd : decode cc pc = .ok (.if_icmp .ne off, 3)) (ht : (pc : Int) + off = (tgt : Int)) (hx : x.toInt = a) (hy : y.toInt = b) (kt : ¬ a = b → V X G A nL Q n ad ce sl E tgt lv st) (kf : a = b → V X G A nL Q n ad ce sl E (pc + 3) lv st) : V X G A nL Q n ad ce sl E pc lv (.int y :: .int x :: st) := by
  subst hx; subst hy
  exact v_icmp_ne C tgt hd ht (fun h => kt (fun q => h (Int32.toInt_inj.mp q))) (fun h => kf (congrArg Int32.toInt h))
theorem b_if_ne (C : Cx X l G A own cc nL ret R) {x : Int32} {off a : Int} (tgt : Nat) (hd : decode cc pc = .ok (.ifCond .ne off, 3)) (ht : (pc : Int) + off = (tgt : Int)) (hx : x.toInt = a) (kt : ¬ a = 0 → V X G A nL Q n ad ce sl E tgt lv st) (kf : a = 0 → V X G A nL Q n ad ce sl E (pc + 3) lv st) : V X G A nL Q n ad ce sl E pc lv (.int x :: st) := by
  subst hx
  exact v_if_ne C tgt hd ht (fun h => kt (fun q => h (Int32.toInt_inj.mp q))) (fun h => kf (congrArg Int32.toInt h))
theorem b_icmp_lt (C : Cx X l G A own cc nL ret R) {x y : Int32} {off a b : Int} (tgt : Nat) (hd : decode cc pc = .ok (.if_icmp .lt off, 3)) (ht : (pc : Int) + off = (tgt : Int)) (hx : x.toInt = a) (hy : y.toInt = b) (kt : a < b → V X G A nL Q n ad ce sl E tgt lv st) (kf : ¬ a < b → V X G A nL Q n ad ce sl E (pc + 3) lv st) : V X G A nL Q n ad ce sl E pc lv (.int y :: .int x :: st) := by
  subst hx; subst hy
  exact v_icmp_lt C tgt hd ht (fun h => kt (Int32.lt_iff_toInt_lt.mp h)) (fun h => kf (fun q => h (Int32.lt_iff_toInt_lt.mpr q)))
theorem b_if_lt (C : Cx X l G A own cc nL ret R) {x : Int32} {off a : Int} (tgt : Nat) (hd : decode cc pc = .ok (.ifCond .lt off, 3)) (ht : (pc : Int) + off = (tgt : Int)) (hx : x.toInt = a) (kt : a < 0 → V X G A nL Q n ad ce sl E tgt lv st) (kf : ¬ a < 0 → V X G A nL Q n ad ce sl E (pc + 3) lv st) : V X G A nL Q n ad ce sl E pc lv (.int x :: st) := by
  subst hx
  exact v_if_lt C tgt hd ht (fun h => kt (Int32.lt_iff_toInt_lt.mp h)) (fun h => kf (fun q => h (Int32.lt_iff_toInt_lt.mpr q)))
theorem b_icmp_ge (C : Cx X l G A own cc nL ret R) {x y : Int32} {off a b : Int} (tgt : Nat) (hd : decode cc pc = .ok (.if_icmp .ge off, 3)) (ht : (pc : Int) + off = (tgt : Int)) (hx : x.toInt = a) (hy : y.toInt = b) (kt : b ≤ a → V X G A nL Q n ad ce sl E tgt lv st) (kf : ¬ b ≤ a → V X G A nL Q n ad ce sl E (pc + 3) lv st) : V X G A nL Q n ad ce sl E pc lv (.int y :: .int x :: st) := by
  subst hx; subst hy
  exact v_icmp_ge C tgt hd ht (fun h => kt (Int32.le_iff_toInt_le.mp h)) (fun h => kf (fun q => h (Int32.le_iff_toInt_le.mpr q)))
theorem b_if_ge (C : Cx X l G A own cc nL ret R) {x : Int32} {off a : Int} (tgt : Nat) (hd : decode cc pc = .ok (.ifCond .ge off, 3)) (ht : (pc : Int) + off = (tgt : Int)) (hx : x.toInt = a) (kt : 0 ≤ a → V X G A nL Q n ad ce sl E tgt lv st) (kf : ¬ 0 ≤ a → V X G A nL Q n ad ce sl E (pc + 3) lv st) : V X G A nL Q n ad ce sl E pc lv (.int x :: st) := by
  subst hx
  exact v_if_ge C tgt hd ht (fun h => kt (Int32.le_iff_toInt_le.mp h)) (fun h => kf (fun q => h (Int32.le_iff_toInt_le.mpr q)))
theorem b_icmp_gt (C : Cx X l G A own cc nL ret R) {x y : Int32} {off a b : Int} (tgt : Nat) (hd : decode cc pc = .ok (.if_icmp .gt off, 3)) (ht : (pc : Int) + off = (tgt : Int)) (hx : x.toInt = a) (hy : y.toInt = b) (kt : b < a → V X G A nL Q n ad ce sl E tgt lv st) (kf : ¬ b < a → V X G A nL Q n ad ce sl E (pc + 3) lv st) : V X G A nL Q n ad ce sl E pc lv (.int y :: .int x :: st) := by
  subst hx; subst hy
  exact v_icmp_gt C tgt hd ht (fun h => kt (Int32.lt_iff_toInt_lt.mp h)) (fun h => kf (fun q => h (Int32.lt_iff_toInt_lt.mpr q)))
theorem b_if_gt (C : Cx X l G A own cc nL ret R) {x : Int32} {off a : Int} (tgt : Nat) (hd : decode cc pc = .ok (.ifCond .gt off, 3)) (ht : (pc : Int) + off = (tgt : Int)) (hx : x.toInt = a) (kt : 0 < a → V X G A nL Q n ad ce sl E tgt lv st) (kf : ¬ 0 < a → V X G A nL Q n ad ce sl E (pc + 3) lv st) : V X G A nL Q n ad ce sl E pc lv (.int x :: st) := by
  subst hx
  exact v_if_gt C tgt hd ht (fun h => kt (Int32.lt_iff_toInt_lt.mp h)) (fun h => kf (fun q => h (Int32.lt_iff_toInt_lt.mpr q)))
theorem b_icmp_le (C : Cx X l G A own cc nL ret R) {x y : Int32} {off a b : Int} (tgt : Nat) (hd : decode cc pc = .ok (.if_icmp .le off, 3)) (ht : (pc : Int) + off = (tgt : Int)) (hx : x.toInt = a) (hy : y.toInt = b) (kt : a ≤ b → V X G A nL Q n ad ce sl E tgt lv st) (kf : ¬ a ≤ b → V X G A nL Q n ad ce sl E (pc + 3) lv st) : V X G A nL Q n ad ce sl E pc lv (.int y :: .int x :: st) := by
  subst hx; subst hy
  exact v_icmp_le C tgt hd ht (fun h => kt (Int32.le_iff_toInt_le.mp h)) (fun h => kf (fun q => h (Int32.le_iff_toInt_le.mpr q)))
theorem b_if_le (C : Cx X l G A own cc nL ret R) {x : Int32} {off a : Int} (tgt : Nat) (hd : decode cc pc = .ok (.ifCond .le off, 3)) (ht : (pc : Int) + off = (tgt : Int)) (hx : x.toInt = a) (kt : a ≤ 0 → V X G A nL Q n ad ce sl E tgt lv st) (kf : ¬ a ≤ 0 → V X G A nL Q n ad ce sl E (pc + 3) lv st) : V X G A nL Q n ad ce sl E pc lv (.int x :: st) := by
  subst hx
  exact v_if_le C tgt hd ht (fun h => kt (Int32.le_iff_toInt_le.mp h)) (fun h => kf (fun q => h (Int32.le_iff_toInt_le.mpr q)))
end VR
def rfs (ad : Nat → Nat) (L : List Nat) : Nat → Option Nat := fun k => (L[k]?).map ad
theorem Met.ofWF {l : Launch} {y : MethodName} {ws ws' : List Cond} {rm : Room} {Pc : Array Value → State → Prop} {Qc : Array Value → State → Outcome → State → Prop} {mc ms : Nat} {free : Addr → Prop} {cc : ByteArray} {maxL : Nat} {ret : Option FieldType}
    (hy : plainFor y = true) (hw : ws = Cond.code y cc maxL ret :: ws')
    (body : ∀ p e s m args below meth c s₁, BodyLoose p l y (headSpec ws rm) cc maxL ret e s m args below meth c s₁ → c.maxLocals = maxL → Pc args s →
      W p l e (headSpec ws rm).room s m args below meth c s.heap [] 0 0 (MQ below Qc args s mc ms free) (entryFrame m args maxL)) : Met l y ws rm Pc Qc mc ms free := by
  refine MetFree.of_bodySF (code := cc) (maxLocals := maxL) (ret := ret) hy ?_ ?_
  · intro args s m h hn
    obtain ⟨meth, c, h1, h2, h3, h4, h5, h6, -, -⟩ := Cond.code_spec hn (atoms_spec (ws := ws) h _ (by rw [hw]; exact List.mem_cons_self))
    exact ⟨meth, c, h1, h2, h3, h4, h5, h6⟩
  · intro p e s m args below meth c s₁ B hml hP _
    have hh0 : s₁.heap = s.heap := by rw [B.state]; rfl
    obtain ⟨t, a1, o, b1, b2, b3⟩ := body p e s m args below meth c s₁ B hml hP s₁ hh0 (Stand.of_body B)
    exact ⟨t, o, a1, b1, b2, ⟨b3.1, b3.2⟩⟩
theorem entF {l : Launch} {G : Gl} {y : MethodName} {cc : ByteArray} {maxL : Nat} {ret : Option FieldType} {R : Room} {n : Nat} {ad : Nat → Nat} {E : Nat → va_E} {av : List Value} {sz mc ms : Nat} {Qc : Array Value → State → Outcome → State → Prop} (hy : plainFor y = true) (hav : (lg_sl av).length ≤ maxL)
    (body : ∀ (X : Mx) (A : Nat → Prop), A = va_A (wl n ad E) sz → X.s.heap.size = sz → X.meth.name = y.name → Cx X l G A y.cls cc maxL ret R → V X G A maxL (MQ X.below Qc X.args X.s mc ms A) n ad 0 0 E 0 (lv_args 0 av) []) :
    Met l y (.code y cc maxL ret :: tb) R (va_Pc av (Pre G n ad E sz)) Qc mc ms (va_A (wl n ad E) sz) := by
  refine Met.ofWF (cc := cc) (maxL := maxL) (ret := ret) hy rfl ?_
  intro p e s m args below meth c s₁ B hml hv
  obtain ⟨rfl, hsz, hP, hK, hD0, hX⟩ := hv
  have hts : ∀ w ∈ tb, w.before av.toArray s = true := fun w hw => atoms_spec (ws := .code y cc maxL ret :: tb) B.pre w (List.mem_cons_of_mem _ hw)
  have hown : s.vm.findClass y.cls = some m.cls := findClass_of_methodNamed B.named
  have hD := hD0.self (sz := sz)
  have hA : ∀ q : Nat, s.heap.size ≤ q → va_A (wl n ad E) sz q := fun q h => Or.inr (by rw [← hsz]; exact h)
  have hl := lv_entry av (n := maxL) hav
  rw [lg_entry_eq]
  exact body (p, l, e, R, s, m, av.toArray, below, meth, c) (va_A (wl n ad E) sz) rfl hsz (name_of_methodNamed B.named B.method).1 ⟨B.exec, B.bytes, hml, hown, hts, hK, hA, hX, B.notSynchronized, B.returns, rfl, rfl⟩ s.heap [] _ hP hD va_S.rf hl
theorem CtI.ofF {l : Launch} {G : Gl} {y : MethodName} {cc : ByteArray} {maxL : Nat} {ret : FieldType} {fr lo : Nat} {n : Nat} {ad : Nat → Nat} {E : Nat → va_E} {av : List Value} {post : Int32 → (Nat → va_E) → Prop} (hy : plainFor y = true) (hav : (lg_sl av).length ≤ maxL)
    (body : ∀ (X : Mx) (A : Nat → Prop), Cx X l G A y.cls cc maxL (some ret) (rmx fr lo 0 0) → V X G A maxL (QI X G A n ad post) n ad 0 0 E 0 (lv_args 0 av) []) : CtI l G y cc maxL ret fr lo n ad E av post :=
  fun _ => entF hy hav fun X A hA _ _ C => by subst hA; exact body X _ C

