/-! ===== a method that may make cells, or not ===== -/
def CtZ (l : Launch) (G : Gl) (y : MethodName) (cc : ByteArray) (maxL : Nat) (ret : FieldType) (fr lo k w : Nat) (n : Nat) (ad : Nat → Nat) (E : Nat → va_E) (av : List Value) (post : Int32 → Nat × (Nat → Nat) × (Nat → va_E) → Prop) : Prop :=
  ∀ sz, Met l y (.code y cc maxL (some ret) :: tb) (rmx fr lo k w) (va_Pc av (Pre G n ad E sz)) (va_Qi post (fun u t => Aft G (va_A (wl n ad E) sz) u.1 u.2.1 u.2.2 t) (va_A (wl n ad E) sz)) k w (va_A (wl n ad E) sz)
abbrev QZ (X : Mx) (G : Gl) (A : Nat → Prop) (k w : Nat) (post : Int32 → Nat × (Nat → Nat) × (Nat → va_E) → Prop) : State → Prop := MQ X.below (va_Qi post (fun u t => Aft G A u.1 u.2.1 u.2.2 t) A) X.args X.s k w A
theorem CtZ.of {l : Launch} {G : Gl} {y : MethodName} {cc : ByteArray} {maxL : Nat} {ret : FieldType} {fr lo k w : Nat} {n : Nat} {ad : Nat → Nat} {E : Nat → va_E} {av : List Value} {post : Int32 → Nat × (Nat → Nat) × (Nat → va_E) → Prop} (hy : plainName y.cls = true) (hav : (lg_sl av).length ≤ maxL)
    (body : ∀ (X : Mx) (A : Nat → Prop), Cx X l G A y.cls cc maxL (some ret) (rmx fr lo k w) → V X G A maxL (QZ X G A k w post) n ad 0 0 E 0 (lv_args 0 av) []) : CtZ l G y cc maxL ret fr lo k w n ad E av post :=
  fun _ => ent hy hav fun X A hA _ _ C => by subst hA; exact body X _ C
section VZ
variable {X : Mx} {l : Launch} {G : Gl} {A : Nat → Prop} {own : String} {cc : ByteArray} {nL : Nat} {ret : Option FieldType} {R : Room} {Q : State → Prop} {n : Nat} {ad : Nat → Nat} {ce sl : Nat} {E : Nat → va_E} {pc : Nat} {lv lv' : List (Nat × Value)} {st : List Value}
theorem v_zret (C : Cx X l G A own cc nL ret R) {rt : FieldType} {k w : Nat} {v : Int32} {post : Int32 → Nat × (Nat → Nat) × (Nat → va_E) → Prop} (hd : decode cc pc = .ok (.ireturn, 1)) (hr : ret = some rt) (hnr : narrow rt (.int v) = .int v) (hk : ce ≤ k) (hw : sl ≤ w) (hp : post v (n, ad, E)) : V X G A nL (QZ X G A k w post) n ad ce sl E pc lv [.int v] := fun H locs ls hP hD hS hl =>
  W.widen hk hw (W.zret C.1 C.2.1 (C.2.2.2.2.2.2.2.2.2.1.trans hr) hnr (fun t ht hW => ⟨⟨v, (n, ad, E), rfl, hp, by rw [ht]; exact hP, va_K.moved hW.alike C.2.2.2.2.2.1, hD⟩, hS.F ht⟩) hS.2.2 hd (hlocks := C.2.2.2.2.2.2.2.2.1))
theorem v_cVz (C : Cx X l G A own cc nL ret R) {index : Nat} {y : MethodName} {cy : ByteArray} {maxL fr lo mk mw : Nat} {rt : FieldType} {post : Int32 → Nat × (Nat → Nat) × (Nat → va_E) → Prop} {As rest : List Value} (hd : decode cc pc = .ok (.invokevirtual index, 3)) (hl0 : Cond.methodLink own index y ∈ tb) (hm : MV y cy maxL (some rt) As.length) (b : Nat) {ci : Nat} {r0 : Nat → Option Nat} {i0 : Nat → Int32} (hbn : b < n) (hE : E b = ob ci r0 i0) (hci : ci < 10) (hcy : clR ci = y.cls) (hc : CtZ l G y cy maxL rt fr lo mk mw n ad E (.ref (ad b) :: As) post) (hR : fr + 1 ≤ R.frames ∧ 8 + (maxL + 11) + lo ≤ R.locals) (hst : st = As.reverse ++ .ref (ad b) :: rest) (hW : (rest.map fun v => v.category).sum ≤ 8) (hf : ce + mk ≤ R.cells ∧ sl + mw ≤ R.slots) (kk : ∀ (r : Int32) (n1 : Nat) (ad1 : Nat → Nat) (E1 : Nat → va_E), post r (n1, ad1, E1) → V X G A nL Q n1 ad1 (ce + mk) (sl + mw) E1 (pc + 3) lv (.int r :: rest)) : V X G A nL Q n ad ce sl E pc lv st := by
  intro H locs ls hP hD hS hl
  subst hst
  have hlx := C.2.2.2.2.2.2.2.2.2.2.1
  have hRx := C.2.2.2.2.2.2.2.2.2.2.2
  rw [← hlx] at hc
  rw [← hRx] at hR hf
  have hFc := wl_free hD hS C.2.2.2.2.2.2.1
  refine va_calli (va_runV (C := y.cls) (As := As) (rest := rest) ⟨C.1, C.2.1, C.2.2.1, C.2.2.2.1, C.2.2.2.2.1⟩ (hc H.size) (cwV As.length C.2.2.2.2.1 (tb_in (fun w hw => by rcases List.mem_append.mp hw with h | h; (simp only [List.mem_cons, List.not_mem_nil, or_false] at h; rcases h with rfl | rfl | rfl | rfl; exact hl0; exact hm.2.2.1; exact hm.2.2.2.1; exact hm.2.1); exact (tb_code hm.1 w h).1)) rfl rfl rfl ⟨rfl, hm.2.2.2.2⟩ hR) ⟨Pre.blind, (by have h := va_recv C.2.2.2.2.2.1 hP (cl_ok hci) (wl_e hbn hE); rw [← hcy]; exact h), fun U hU hW0 => ⟨rfl, tb_pre C hP hD hS U hU hW0⟩⟩ rfl rfl hl.1 rfl (by show 2 * 0 + _ ≤ 8; omega) hd ⟨hf.1, hf.2⟩) hS (fun q _ h => hFc q h) hFc (fun r u t H1 locs1 ht hvm hw hB hz hk hS1 => ?_)
  obtain ⟨hP1, hK1, hD1⟩ := hB
  rw [ht] at hP1
  exact kk r u.1 u.2.1 u.2.2 hw H1 locs1 ls hP1 (hD1.weaken (fun _ _ _ h => hFc _ h)) hS1 hl
end VZ
