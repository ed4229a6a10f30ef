section VR
variable {X : Mx} {l : Launch} {G : Gl} {A : Nat → Prop} {own : String} {cc : ByteArray} {nL : Nat} {ret : Option FieldType} {R : Room} {Q : State → Prop} {n : Nat} {ad : Nat → Nat} {ce sl : Nat} {E : Nat → va_E} {pc : Nat} {lv lv' : List (Nat × Value)} {st : List Value}
theorem v_cast {st' : List Value} (h1 : lv = lv') (h2 : st = st') (k : V X G A nL Q n ad ce sl E pc lv' st') : V X G A nL Q n ad ce sl E pc lv st := by rw [h1, h2]; exact k
theorem w_new (C : Cx X l G A own cc nL ret R) {index ci : Nat} {r : Nat → Option Nat} {i : Nat → Int32} (hd : decode cc pc = .ok (.new index, 3)) (hci : ci < 10) (hcl : Cond.classLink own index (clR ci) ∈ tb) (hinst : Cond.instantiable (clR ci) (clN ci) ∈ tb) (hini : Cond.initialized (clR ci) ∈ tb) (hfs : ∀ j, j < clN ci → defaultValue (clY ci j) = vp_V (fl (clM ci) (clN ci) r i) j) (hce : ce + 1 ≤ R.cells) (hsl : sl + clN ci ≤ R.slots) (kk : ∀ (ad1 : Nat → Nat) (E1 : Nat → va_E), (∀ j, j < n → ad1 j = ad j) → E1 n = ob ci r i → (∀ j, j < n → E1 j = E j) → V X G A nL Q (n + 1) ad1 (ce + 1) (sl + clN ci) E1 (pc + 3) lv (.ref (ad1 n) :: st)) : V X G A nL Q n ad ce sl E pc lv st := by
  exact v_new C hd hci hcl hinst hini hfs hce hsl (fun q => by
    have h := kk (va_up ad n q) (va_up E n (ob ci r i)) (fun j hj => if_neg (Nat.ne_of_lt hj)) (if_pos rfl) (fun j hj => if_neg (Nat.ne_of_lt hj))
    rw [show va_up ad n q n = q from if_pos rfl] at h
    exact h)
theorem w_newI (C : Cx X l G A own cc nL ret R) {N : Nat} {a : Int32} (hd : decode cc pc = .ok (.newarray .int, 2)) (hac : Cond.arrayClass .int ∈ tb) (ha : ¬ a < 0) (hN : a.toNatClampNeg = N) (hbytes : N * componentBytes .int ≤ 536870912) (hce : ce + 1 ≤ R.cells) (hsl : sl + N ≤ R.slots) (kk : ∀ (ad1 : Nat → Nat) (E1 : Nat → va_E), (∀ j, j < n → ad1 j = ad j) → E1 n = aI G N (fun _ => 0) → (∀ j, j < n → E1 j = E j) → V X G A nL Q (n + 1) ad1 (ce + 1) (sl + N) E1 (pc + 2) lv (.ref (ad1 n) :: st)) : V X G A nL Q n ad ce sl E pc lv (.int a :: st) := by
  exact v_newI C hd hac ha hN hbytes hce hsl (fun q => by
    have h := kk (va_up ad n q) (va_up E n (aI G N (fun _ => 0))) (fun j hj => if_neg (Nat.ne_of_lt hj)) (if_pos rfl) (fun j hj => if_neg (Nat.ne_of_lt hj))
    rw [show va_up ad n q n = q from if_pos rfl] at h
    exact h)
theorem w_newJ (C : Cx X l G A own cc nL ret R) {N : Nat} {a : Int32} (hd : decode cc pc = .ok (.newarray .long, 2)) (hac : Cond.arrayClass .long ∈ tb) (ha : ¬ a < 0) (hN : a.toNatClampNeg = N) (hbytes : N * componentBytes .long ≤ 536870912) (hce : ce + 1 ≤ R.cells) (hsl : sl + N ≤ R.slots) (kk : ∀ (ad1 : Nat → Nat) (E1 : Nat → va_E), (∀ j, j < n → ad1 j = ad j) → E1 n = aJ G N (fun _ => 0) → (∀ j, j < n → E1 j = E j) → V X G A nL Q (n + 1) ad1 (ce + 1) (sl + N) E1 (pc + 2) lv (.ref (ad1 n) :: st)) : V X G A nL Q n ad ce sl E pc lv (.int a :: st) := by
  exact v_newJ C hd hac ha hN hbytes hce hsl (fun q => by
    have h := kk (va_up ad n q) (va_up E n (aJ G N (fun _ => 0))) (fun j hj => if_neg (Nat.ne_of_lt hj)) (if_pos rfl) (fun j hj => if_neg (Nat.ne_of_lt hj))
    rw [show va_up ad n q n = q from if_pos rfl] at h
    exact h)
theorem w_newZ (C : Cx X l G A own cc nL ret R) {N : Nat} {a : Int32} (hd : decode cc pc = .ok (.newarray .boolean, 2)) (hac : Cond.arrayClass .boolean ∈ tb) (ha : ¬ a < 0) (hN : a.toNatClampNeg = N) (hbytes : N * componentBytes .boolean ≤ 536870912) (hce : ce + 1 ≤ R.cells) (hsl : sl + N ≤ R.slots) (kk : ∀ (ad1 : Nat → Nat) (E1 : Nat → va_E), (∀ j, j < n → ad1 j = ad j) → E1 n = aZ G N (fun _ => 0) → (∀ j, j < n → E1 j = E j) → V X G A nL Q (n + 1) ad1 (ce + 1) (sl + N) E1 (pc + 2) lv (.ref (ad1 n) :: st)) : V X G A nL Q n ad ce sl E pc lv (.int a :: st) := by
  exact v_newZ C hd hac ha hN hbytes hce hsl (fun q => by
    have h := kk (va_up ad n q) (va_up E n (aZ G N (fun _ => 0))) (fun j hj => if_neg (Nat.ne_of_lt hj)) (if_pos rfl) (fun j hj => if_neg (Nat.ne_of_lt hj))
    rw [show va_up ad n q n = q from if_pos rfl] at h
    exact h)
theorem w_newAZ (C : Cx X l G A own cc nL ret R) {N index : Nat} {a : Int32} (hd : decode cc pc = .ok (.anewarray index, 3)) (hcl : Cond.classLink own index "OddHours$Zone" ∈ tb) (ha : ¬ a < 0) (hN : a.toNatClampNeg = N) (hbytes : N * 4 ≤ 536870912) (hce : ce + 1 ≤ R.cells) (hsl : sl + N ≤ R.slots) (kk : ∀ (ad1 : Nat → Nat) (E1 : Nat → va_E), (∀ j, j < n → ad1 j = ad j) → E1 n = aQ G 3 N (fun _ => none) → (∀ j, j < n → E1 j = E j) → V X G A nL Q (n + 1) ad1 (ce + 1) (sl + N) E1 (pc + 3) lv (.ref (ad1 n) :: st)) : V X G A nL Q n ad ce sl E pc lv (.int a :: st) := by
  exact v_newAZ C hd hcl ha hN hbytes hce hsl (fun q => by
    have h := kk (va_up ad n q) (va_up E n (aQ G 3 N (fun _ => none))) (fun j hj => if_neg (Nat.ne_of_lt hj)) (if_pos rfl) (fun j hj => if_neg (Nat.ne_of_lt hj))
    rw [show va_up ad n q n = q from if_pos rfl] at h
    exact h)
theorem w_newAP (C : Cx X l G A own cc nL ret R) {N index : Nat} {a : Int32} (hd : decode cc pc = .ok (.anewarray index, 3)) (hcl : Cond.classLink own index "OddHours$Program" ∈ tb) (ha : ¬ a < 0) (hN : a.toNatClampNeg = N) (hbytes : N * 4 ≤ 536870912) (hce : ce + 1 ≤ R.cells) (hsl : sl + N ≤ R.slots) (kk : ∀ (ad1 : Nat → Nat) (E1 : Nat → va_E), (∀ j, j < n → ad1 j = ad j) → E1 n = aQ G 4 N (fun _ => none) → (∀ j, j < n → E1 j = E j) → V X G A nL Q (n + 1) ad1 (ce + 1) (sl + N) E1 (pc + 3) lv (.ref (ad1 n) :: st)) : V X G A nL Q n ad ce sl E pc lv (.int a :: st) := by
  exact v_newAP C hd hcl ha hN hbytes hce hsl (fun q => by
    have h := kk (va_up ad n q) (va_up E n (aQ G 4 N (fun _ => none))) (fun j hj => if_neg (Nat.ne_of_lt hj)) (if_pos rfl) (fun j hj => if_neg (Nat.ne_of_lt hj))
    rw [show va_up ad n q n = q from if_pos rfl] at h
    exact h)
end VR
def rfo (ad : Nat → Nat) (L : List (Option Nat)) : Nat → Option Nat := fun k => ((L[k]?).getD none).map ad
theorem rfo_set {ad : Nat → Nat} {L : List (Option Nat)} {k c : Nat} (hk : k < L.length) : va_up (rfo ad L) k (some (ad c)) = rfo ad (L.set k (some c)) := by
  funext j
  unfold va_up rfo
  by_cases h : j = k
  · subst h
    simp [hk]
  · have h2 : ¬ k = j := fun q => h q.symm
    simp [h, List.getElem?_set, h2]
theorem rfo_all {ad : Nat → Nat} {L : List Nat} : rfo ad (L.map some) = rfs ad L := by
  funext j
  unfold rfo rfs
  rw [List.getElem?_map]
  cases L[j]? <;> rfl
theorem rfo_new {n : Nat} {ad ad1 : Nat → Nat} (h : ∀ j, j < n → ad1 j = ad j) {L : List (Option Nat)} (hL : (L.filterMap id).all (fun c => decide (c < n)) = true) : rfo ad L = rfo ad1 L := by
  funext j
  unfold rfo
  cases q : L[j]? with
  | none => rfl
  | some x =>
    cases x with
    | none => rfl
    | some c =>
      have hm : c ∈ L.filterMap id := List.mem_filterMap.mpr ⟨some c, List.mem_of_getElem? q, rfl⟩
      have hc : c < n := of_decide_eq_true (List.all_eq_true.mp hL c hm)
      exact congrArg some (h c hc).symm
theorem rfo_none {ad : Nat → Nat} {k : Nat} : rfo ad (List.replicate k none) = fun _ => none := by
  funext j
  unfold rfo
  by_cases h : j < k
  · simp [h]
  · simp [h]
theorem rfs_new {n : Nat} {ad ad1 : Nat → Nat} (h : ∀ j, j < n → ad1 j = ad j) {L : List Nat} (hL : ∀ c ∈ L, c < n) : rfs ad L = rfs ad1 L := by
  funext j
  unfold rfs
  cases q : L[j]? with
  | none => rfl
  | some c => exact congrArg some (h c (hL _ (List.mem_of_getElem? q))).symm
theorem ob_i {ci : Nat} {r : Nat → Option Nat} {i i' : Nat → Int32} (h : ∀ k, k < clN ci → clM ci k = false → i k = i' k) : ob ci r i = ob ci r i' := by
  show (Sum.inr (ci, fl (clM ci) (clN ci) r i) : va_E) = Sum.inr (ci, fl (clM ci) (clN ci) r i')
  have e : fl (clM ci) (clN ci) r i = fl (clM ci) (clN ci) r i' := by
    unfold fl
    apply List.map_congr_left
    intro k hk
    cases hm : clM ci k with
    | true => rfl
    | false => simp [h k (List.mem_range.mp hk) hm]
  rw [e]
theorem ob_r {ci : Nat} {r r' : Nat → Option Nat} {i : Nat → Int32} (h : ∀ k, k < clN ci → clM ci k = true → r k = r' k) : ob ci r i = ob ci r' i := by
  show (Sum.inr (ci, fl (clM ci) (clN ci) r i) : va_E) = Sum.inr (ci, fl (clM ci) (clN ci) r' i)
  have e : fl (clM ci) (clN ci) r i = fl (clM ci) (clN ci) r' i := by
    unfold fl
    apply List.map_congr_left
    intro k hk
    cases hm : clM ci k with
    | false => rfl
    | true => simp [h k (List.mem_range.mp hk) hm]
  rw [e]
theorem dv_0 : ∀ j, j < 9 → defaultValue (tyX0 j) = (if mkX0 j then Value.null else .int 0) := by decide
theorem dv_1 : ∀ j, j < 8 → defaultValue (tyX1 j) = (if mkX1 j then Value.null else .int 0) := by decide
theorem dv_2 : ∀ j, j < 3 → defaultValue (tyX2 j) = (if mkX2 j then Value.null else .int 0) := by decide
theorem dv_3 : ∀ j, j < 9 → defaultValue (tyX3 j) = (if mkX3 j then Value.null else .int 0) := by decide
theorem dv_4 : ∀ j, j < 6 → defaultValue (tyX4 j) = (if mkX4 j then Value.null else .int 0) := by decide
theorem dv_5 : ∀ j, j < 9 → defaultValue (tyX5 j) = (if mkX5 j then Value.null else .int 0) := by decide
theorem dv_6 : ∀ j, j < 11 → defaultValue (tyX6 j) = (if mkX6 j then Value.null else .int 0) := by decide
theorem dv_7 : ∀ j, j < 2 → defaultValue (tyX7 j) = (if mkX7 j then Value.null else .int 0) := by decide
theorem dv_8 : ∀ j, j < 8 → defaultValue (tyX8 j) = (if mkX8 j then Value.null else .int 0) := by decide
theorem dv_9 : ∀ j, j < 42 → defaultValue (tyX9 j) = (if mkX9 j then Value.null else .int 0) := by decide
theorem dv_ok {ci : Nat} (h : ci < 10) : ∀ j, j < clN ci → defaultValue (clY ci j) = (if clM ci j then Value.null else .int 0) := by
  match ci, h with
  | 0, _ => exact dv_0
  | 1, _ => exact dv_1
  | 2, _ => exact dv_2
  | 3, _ => exact dv_3
  | 4, _ => exact dv_4
  | 5, _ => exact dv_5
  | 6, _ => exact dv_6
  | 7, _ => exact dv_7
  | 8, _ => exact dv_8
  | 9, _ => exact dv_9
theorem fresh_fs {ci : Nat} (h : ci < 10) : ∀ j, j < clN ci → defaultValue (clY ci j) = vp_V (fl (clM ci) (clN ci) (fun _ => none) ip0) j := by
  intro j hj
  rw [dv_ok h j hj]
  unfold vp_V fl
  rw [List.getD_eq_getElem?_getD, List.getElem?_map, List.getElem?_range hj]
  rfl
theorem oi_inst : Cond.instanceMethod Lib.objectInit ∈ tb := (in_t1 (List.mem_of_getElem? (i := 19) rfl) rfl)
theorem oi_code : Cond.code Lib.objectInit ⟨#[0xb1]⟩ 1 none ∈ tb := (in_t1 (List.mem_of_getElem? (i := 20) rfl) rfl)
def md30 : Nat → Int32 := (upd (upd (upd (upd (upd (upd (upd (upd (upd (upd (upd (upd (fun _ => 0) 0 30) 1 30) 2 30) 3 30) 4 30) 5 30) 6 30) 7 30) 8 30) 9 30) 10 30) 11 30)
theorem md30_ok : ∀ j, j < 12 → (md30 j).toInt = 30 := by decide
def ic0 : Nat → Int32 := fun k => if k = 4 then 4 else if k = 5 then 100 else if k = 6 then 1 else if k = 7 then 7 else 0
theorem cal0 : CalP ic0 md30 := ⟨fun j hj => by rw [md30_ok j hj]; decide, by decide, by decide, by decide, by decide, by decide⟩
