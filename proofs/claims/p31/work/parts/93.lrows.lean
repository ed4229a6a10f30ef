section VR
variable {X : Mx} {l : Launch} {G : Gl} {A : Nat → Prop} {own : String} {cc : ByteArray} {nL : Nat} {ret : Option FieldType} {R : Room} {Q : State → Prop} {n : Nat} {ad : Nat → Nat} {ce sl : Nat} {E : Nat → va_E} {pc : Nat} {lv lv' : List (Nat × Value)} {st : List Value}
theorem v_sld (C : Cx X l G A own cc nL ret R) {b L : Nat} {xs : Nat → Int32} (hX : va_X b L xs X.s X.s.heap) (hbl : b < X.s.heap.size) (hbA : ¬ A b) {i v : Int32} (hd : decode cc pc = .ok (.iaload, 1)) (hin : vp_in i L) (hv : xs i.toNatClampNeg = v) (k : V X G A nL Q n ad ce sl E (pc + 1) lv (.int v :: st)) : V X G A nL Q n ad ce sl E pc lv (.int i :: .ref b :: st) := fun H locs ls hP hD hS hl => va_sld C.1 C.2.1 hX hbl hbA hS hin hd (by rw [hv]; exact k H locs ls hP hD hS hl)
theorem v_slen (C : Cx X l G A own cc nL ret R) {b L : Nat} {xs : Nat → Int32} (hX : va_X b L xs X.s X.s.heap) (hbl : b < X.s.heap.size) (hbA : ¬ A b) {v : Int32} (hd : decode cc pc = .ok (.arraylength, 1)) (hv : Int32.ofNat L = v) (k : V X G A nL Q n ad ce sl E (pc + 1) lv (.int v :: st)) : V X G A nL Q n ad ce sl E pc lv (.ref b :: st) := fun H locs ls hP hD hS hl => va_slen C.1 C.2.1 hX hbl hbA hS hd (by rw [hv]; exact k H locs ls hP hD hS hl)
end VR
theorem v_lawret {X : Mx} {l : Launch} {G : Gl} {A : Nat → Prop} {own : String} {nL : Nat} {n : Nat} {ad : Nat → Nat} {ce sl : Nat} {E : Nat → va_E} {pc : Nat} {lv : List (Nat × Value)} (C : Cx X l G A own code nL ret room_1) {b : Nat} (hargs : X.args = #[Value.ref b]) (hA : ∀ q, A q → X.s.heap.size ≤ q) (hd : decode code pc = .ok (.ireturn, 1)) (h1 : ce ≤ 600000) (h2 : sl ≤ 7302250) : V X G A nL (lw_Z X.below #[Value.ref b] X.s) n ad ce sl E pc lv [.int 1] := by
  intro H locs ls hP hD hS hl
  obtain ⟨p, l', e, R, s, m, args, below, meth, c⟩ := X
  obtain ⟨c1, c2, c3, c4, c5, c6, c7, c8, c9, c10, c11, c12⟩ := C
  have c12 : R = room_1 := c12
  have hargs : args = #[Value.ref b] := hargs
  subst c12
  subst hargs
  exact va_forget (fun q hq => hA _ (hS.2.2 q hq)) (W.widen h1 h2 (lw_ret c1 c2 c10 c9 hd))
theorem Pf.keep {G : Gl} {ad ad1 : Nat → Nat} {E E1 : Nat → va_E} {b N : Nat} (h : Pf G ad E b) (hb : b + 6 ≤ N) (ha : ∀ j, j < N → ad1 j = ad j) (he : ∀ j, j < N → E1 j = E j) : Pf G ad1 E1 b := by
  obtain ⟨g, g1, g2, g3, g4, g5⟩ := h
  refine ⟨?_, (he _ (by omega)).trans g1, (he _ (by omega)).trans g2, (he _ (by omega)).trans g3, (he _ (by omega)).trans g4, (he _ (by omega)).trans g5⟩
  rw [he b (by omega), g]
  unfold rP
  rw [rfs_new (n := N) ha (fun c hc => by simp at hc; omega)]
theorem Fresh8.keep {G : Gl} {ad ad1 : Nat → Nat} {E E1 : Nat → va_E} (h : Fresh8 G ad E) (ha : ∀ j, j < 68 → ad1 j = ad j) (he : ∀ j, j < 68 → E1 j = E j) : Fresh8 G ad1 E1 := by
  obtain ⟨h0, ⟨ms1, ld1, ys1, h1, h2, h3, h4, h5, hcP, hcF⟩, h6, h7, h8, hPf, h45, h46, h47, h48, h49, h50, h51, hq52, hq58, h64, h65, h66, h67⟩ := h
  have K : ∀ (ci : Nat) (L : List Nat) (i : Nat → Int32), (∀ c ∈ L, c < 68) → ob ci (rfs ad L) i = ob ci (rfs ad1 L) i := fun ci L i hL => by rw [rfs_new (n := 68) ha hL]
  refine ⟨(he 0 (by decide)).trans (h0.trans (K _ _ _ (by decide))), ⟨ms1, ld1, ys1, (he 1 (by decide)).trans (h1.trans (K _ _ _ (by decide))), (he 2 (by decide)).trans h2, (he 3 (by decide)).trans h3, (he 4 (by decide)).trans h4, (he 5 (by decide)).trans h5, hcP, hcF⟩, (he 6 (by decide)).trans (h6.trans (K _ _ _ (by decide))), (he 7 (by decide)).trans h7, ?_, fun i hi => (hPf i hi).keep (N := 68) (by omega) ha he, (he 45 (by decide)).trans (h45.trans (K _ _ _ (by decide))), (he 46 (by decide)).trans h46, (he 47 (by decide)).trans h47, (he 48 (by decide)).trans (h48.trans (K _ _ _ (by decide))), (he 49 (by decide)).trans (h49.trans (K _ _ _ (by decide))), (he 50 (by decide)).trans h50, (he 51 (by decide)).trans (h51.trans (K _ _ _ (by decide))), hq52.keep (N := 68) (by decide) ha he, hq58.keep (N := 68) (by decide) ha he, (he 64 (by decide)).trans h64, (he 65 (by decide)).trans h65, (he 66 (by decide)).trans h66, (he 67 (by decide)).trans h67⟩
  rw [he 8 (by decide), h8, rfo_new (n := 68) ha (by decide)]
theorem hfp8 {ad : Nat → Nat} : ∀ i, i < 6 → rfo ad [some 9, some 15, some 21, some 27, some 33, some 39] i = some (ad (9 + 6 * i)) := by
  intro i hi
  match i, hi with
  | 0, _ => rfl
  | 1, _ => rfl
  | 2, _ => rfl
  | 3, _ => rfl
  | 4, _ => rfl
  | 5, _ => rfl
