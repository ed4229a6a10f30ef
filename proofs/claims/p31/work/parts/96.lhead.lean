theorem ti_ofNat {L : Nat} (h : L ≤ 3072) : (Int32.ofNat L).toInt = (L : Int) := by
  rw [Int32.toInt_ofNat_of_lt (by omega)]
set_option maxRecDepth 20000 in
theorem lw_sw {X : Mx} {l : Launch} {G : Gl} {A : Nat → Prop} (C : Cx X l G A "OddHoursLaw" code 4 ret room_1) {b L : Nat} {xs : Nat → Int32} (hX : va_X b L xs X.s X.s.heap) (hbl : b < X.s.heap.size) (hbA : ¬ A b) (hA : ∀ q, A q → X.s.heap.size ≤ q) (hlr : X.args = #[Value.ref b]) {t : Nat} {x : Int32} (hx : x.toInt = 6 * (t : Int)) (hL : 6 * t + 6 ≤ L) (hL0 : L ≤ 3072) (kont : ∀ (k : Nat) (ic md : Nat → Int32) (td kn : Int32) (fl : Nat → Int32) (ad : Nat → Nat) (E : Nat → va_E), C8 G ad k ic md td kn fl E → R9 G ad (98 + 9 * k) k ic md td kn fl E → V X G A 4 (lw_Z X.below #[Value.ref b] X.s) (98 + 9 * k) ad (1000 + 9 * (t + 1)) (400000 + 3246 * (t + 1)) E 1288 [(0, .ref b), (1, .ref (ad 0)), (2, .ref (ad 68)), (3, .int x)] []) {k : Nat} {ic md : Nat → Int32} {td kn : Int32} {fl : Nat → Int32} {ad : Nat → Nat} {E : Nat → va_E} (h8 : C8 G ad k ic md td kn fl E) (h9 : R9 G ad (98 + 9 * k) k ic md td kn fl E) : V X G A 4 (lw_Z X.below #[Value.ref b] X.s) (98 + 9 * k) ad (1000 + 9 * t) (400000 + 3246 * t) E 27 [(0, .ref b), (1, .ref (ad 0)), (2, .ref (ad 68)), (3, .int x)] [] := by
  refine v_aload_n C 0 dL_law_27 rfl rfl ?_
  refine v_iload_n C 3 dL_law_28 rfl rfl ?_
  refine v_sld (v := xs (6 * t)) C hX hbl hbA dL_law_29 (ti_in hx (by omega) (by omega)) (by rw [ti_cl hx, show Int.toNat (6 * (t : Int)) = 6 * t by omega]) ?_
  refine v_bipush (v := 31) C dL_law_30 (by decide) ?_
  refine v_iand C dL_law_32 ?_
  obtain ⟨j, hj, ej⟩ := pk_andE (xs (6 * t)) (m := 31) 5 (by decide)
  refine v_eq ej ?_
  have hj : j < 32 := hj
  rcases (show j = 0 ∨ j = 1 ∨ j = 2 ∨ j = 3 ∨ j = 4 ∨ j = 5 ∨ j = 6 ∨ j = 7 ∨ j = 8 ∨ j = 9 ∨ j = 10 ∨ j = 11 ∨ j = 12 ∨ j = 13 ∨ j = 14 ∨ j = 15 ∨ j = 16 ∨ j = 17 ∨ j = 18 ∨ j = 19 ∨ j = 20 ∨ j = 21 ∨ j = 22 ∨ j = 23 ∨ j = 24 ∨ j = 25 ∨ j = 26 ∨ j = 27 ∨ j = 28 ∨ j = 29 ∨ j = 30 ∨ j = 31 by omega) with rfl | rfl | rfl | rfl | rfl | rfl | rfl | rfl | rfl | rfl | rfl | rfl | rfl | rfl | rfl | rfl | rfl | rfl | rfl | rfl | rfl | rfl | rfl | rfl | rfl | rfl | rfl | rfl | rfl | rfl | rfl | rfl
  · exact v_tableIn (off := 135) C 168 dL_law_33 (by decide) (by decide) (by decide) (by decide) (lw_k0 C hX hbl hbA hA hlr hx hL hL0 kont h8 h9)
  · exact v_tableIn (off := 168) C 201 dL_law_33 (by decide) (by decide) (by decide) (by decide) (lw_k1 C hX hbl hbA hA hlr hx hL hL0 kont h8 h9)
  · exact v_tableIn (off := 211) C 244 dL_law_33 (by decide) (by decide) (by decide) (by decide) (lw_k2 C hX hbl hbA hA hlr hx hL hL0 kont h8 h9)
  · exact v_tableIn (off := 244) C 277 dL_law_33 (by decide) (by decide) (by decide) (by decide) (lw_k3 C hX hbl hbA hA hlr hx hL hL0 kont h8 h9)
  · exact v_tableIn (off := 277) C 310 dL_law_33 (by decide) (by decide) (by decide) (by decide) (lw_k4 C hX hbl hbA hA hlr hx hL hL0 kont h8 h9)
  · exact v_tableIn (off := 310) C 343 dL_law_33 (by decide) (by decide) (by decide) (by decide) (lw_k5 C hX hbl hbA hA hlr hx hL hL0 kont h8 h9)
  · exact v_tableIn (off := 353) C 386 dL_law_33 (by decide) (by decide) (by decide) (by decide) (lw_k6 C hX hbl hbA hA hlr hx hL hL0 kont h8 h9)
  · exact v_tableIn (off := 396) C 429 dL_law_33 (by decide) (by decide) (by decide) (by decide) (lw_k7 C hX hbl hbA hA hlr hx hL hL0 kont h8 h9)
  · exact v_tableIn (off := 419) C 452 dL_law_33 (by decide) (by decide) (by decide) (by decide) (lw_k8 C hX hbl hbA hA hlr hx hL hL0 kont h8 h9)
  · exact v_tableIn (off := 482) C 515 dL_law_33 (by decide) (by decide) (by decide) (by decide) (lw_k9 C hX hbl hbA hA hlr hx hL hL0 kont h8 h9)
  · exact v_tableIn (off := 505) C 538 dL_law_33 (by decide) (by decide) (by decide) (by decide) (lw_k10 C hX hbl hbA hA hlr hx hL hL0 kont h8 h9)
  · exact v_tableIn (off := 528) C 561 dL_law_33 (by decide) (by decide) (by decide) (by decide) (lw_k11 C hX hbl hbA hA hlr hx hL hL0 kont h8 h9)
  · exact v_tableIn (off := 551) C 584 dL_law_33 (by decide) (by decide) (by decide) (by decide) (lw_k12 C hX hbl hbA hA hlr hx hL hL0 kont h8 h9)
  · exact v_tableIn (off := 584) C 617 dL_law_33 (by decide) (by decide) (by decide) (by decide) (lw_k13 C hX hbl hbA hA hlr hx hL hL0 kont h8 h9)
  · exact v_tableIn (off := 617) C 650 dL_law_33 (by decide) (by decide) (by decide) (by decide) (lw_k14 C hX hbl hbA hA hlr hx hL hL0 kont h8 h9)
  · exact v_tableIn (off := 650) C 683 dL_law_33 (by decide) (by decide) (by decide) (by decide) (lw_k15 C hX hbl hbA hA hlr hx hL hL0 kont h8 h9)
  · exact v_tableIn (off := 683) C 716 dL_law_33 (by decide) (by decide) (by decide) (by decide) (lw_k16 C hX hbl hbA hA hlr hx hL hL0 kont h8 h9)
  · exact v_tableIn (off := 726) C 759 dL_law_33 (by decide) (by decide) (by decide) (by decide) (lw_k17 C hX hbl hbA hA hlr hx hL hL0 kont h8 h9)
  · exact v_tableIn (off := 749) C 782 dL_law_33 (by decide) (by decide) (by decide) (by decide) (lw_k18 C hX hbl hbA hA hlr hx hL hL0 kont h8 h9)
  · exact v_tableIn (off := 802) C 835 dL_law_33 (by decide) (by decide) (by decide) (by decide) (lw_k19 C hX hbl hbA hA hlr hx hL hL0 kont h8 h9)
  · exact v_tableIn (off := 825) C 858 dL_law_33 (by decide) (by decide) (by decide) (by decide) (lw_k20 C hX hbl hbA hA hlr hx hL hL0 kont h8 h9)
  · exact v_tableIn (off := 848) C 881 dL_law_33 (by decide) (by decide) (by decide) (by decide) (lw_k21 C hX hbl hbA hA hlr hx hL hL0 kont h8 h9)
  · exact v_tableIn (off := 881) C 914 dL_law_33 (by decide) (by decide) (by decide) (by decide) (lw_k22 C hX hbl hbA hA hlr hx hL hL0 kont h8 h9)
  · exact v_tableIn (off := 934) C 967 dL_law_33 (by decide) (by decide) (by decide) (by decide) (lw_k23 C hX hbl hbA hA hlr hx hL hL0 kont h8 h9)
  · exact v_tableIn (off := 967) C 1000 dL_law_33 (by decide) (by decide) (by decide) (by decide) (lw_k24 C hX hbl hbA hA hlr hx hL hL0 kont h8 h9)
  · exact v_tableIn (off := 1010) C 1043 dL_law_33 (by decide) (by decide) (by decide) (by decide) (lw_k25 C hX hbl hbA hA hlr hx hL hL0 kont h8 h9)
  · exact v_tableIn (off := 1073) C 1106 dL_law_33 (by decide) (by decide) (by decide) (by decide) (lw_k26 C hX hbl hbA hA hlr hx hL hL0 kont h8 h9)
  · exact v_tableIn (off := 1136) C 1169 dL_law_33 (by decide) (by decide) (by decide) (by decide) (lw_k27 C hX hbl hbA hA hlr hx hL hL0 kont h8 h9)
  · exact v_tableIn (off := 1169) C 1202 dL_law_33 (by decide) (by decide) (by decide) (by decide) (lw_k28 C hX hbl hbA hA hlr hx hL hL0 kont h8 h9)
  · exact v_tableIn (off := 1232) C 1265 dL_law_33 (by decide) (by decide) (by decide) (by decide) (lw_k29 C hX hbl hbA hA hlr hx hL hL0 kont h8 h9)
  · exact v_tableOut C 1288 dL_law_33 (by decide) (by decide) (v_widen (by omega) (by omega) (kont _ _ _ _ _ _ _ _ h8 h9))
  · exact v_tableOut C 1288 dL_law_33 (by decide) (by decide) (v_widen (by omega) (by omega) (kont _ _ _ _ _ _ _ _ h8 h9))
set_option maxRecDepth 20000 in
theorem lw_loop {X : Mx} {l : Launch} {G : Gl} {A : Nat → Prop} (C : Cx X l G A "OddHoursLaw" code 4 ret room_1) {b L : Nat} {xs : Nat → Int32} (hX : va_X b L xs X.s X.s.heap) (hbl : b < X.s.heap.size) (hbA : ¬ A b) (hA : ∀ q, A q → X.s.heap.size ≤ q) (hlr : X.args = #[Value.ref b]) (hL0 : L ≤ 3072) : ∀ (u t : Nat) (x : Int32) (k : Nat) (ic md : Nat → Int32) (td kn : Int32) (fl : Nat → Int32) (ad : Nat → Nat) (E : Nat → va_E), x.toInt = 6 * (t : Int) → t ≤ 512 → L < 6 * t + 6 * u + 6 → C8 G ad k ic md td kn fl E → R9 G ad (98 + 9 * k) k ic md td kn fl E → V X G A 4 (lw_Z X.below #[Value.ref b] X.s) (98 + 9 * k) ad (1000 + 9 * t) (400000 + 3246 * t) E 18 [(0, .ref b), (1, .ref (ad 0)), (2, .ref (ad 68)), (3, .int x)] [] := by
  intro u
  induction u with
  | zero =>
    intro t x k ic md td kn fl ad E hx ht hu h8 h9
    refine v_iload_n C 3 dL_law_18 rfl rfl ?_
    refine v_aload_n C 0 dL_law_19 rfl rfl ?_
    refine v_slen (v := Int32.ofNat L) C hX hbl hbA dL_law_20 rfl ?_
    refine v_bipush (v := 6) C dL_law_21 (by decide) ?_
    refine v_isub C dL_law_23 ?_
    have hl : (Int32.ofNat L).toInt = (L : Int) := ti_ofNat (by omega)
    refine v_top (fun z ez => ?_)
    have hz : z.toInt = ((L : Int) - 6) := by rw [ez]; exact ti_sub hl (show (6 : Int32).toInt = 6 by decide) (by omega) (by omega)
    refine b_icmp_gt C 1294 dL_law_24 (by decide) hx hz (fun _ => ?_) (fun h => absurd h (by omega))
    refine v_iconst (v := 1) C dL_law_1294 (by decide) ?_
    exact v_lawret C hlr hA dL_law_1295 (by omega) (by omega)
  | succ u ih =>
    intro t x k ic md td kn fl ad E hx ht hu h8 h9
    refine v_iload_n C 3 dL_law_18 rfl rfl ?_
    refine v_aload_n C 0 dL_law_19 rfl rfl ?_
    refine v_slen (v := Int32.ofNat L) C hX hbl hbA dL_law_20 rfl ?_
    refine v_bipush (v := 6) C dL_law_21 (by decide) ?_
    refine v_isub C dL_law_23 ?_
    have hl : (Int32.ofNat L).toInt = (L : Int) := ti_ofNat (by omega)
    refine v_top (fun z ez => ?_)
    have hz : z.toInt = ((L : Int) - 6) := by rw [ez]; exact ti_sub hl (show (6 : Int32).toInt = 6 by decide) (by omega) (by omega)
    refine b_icmp_gt C 1294 dL_law_24 (by decide) hx hz (fun _ => ?_) (fun h => ?_)
    · refine v_iconst (v := 1) C dL_law_1294 (by decide) ?_
      exact v_lawret C hlr hA dL_law_1295 (by omega) (by omega)
    · refine lw_sw C hX hbl hbA hA hlr hx (by omega) hL0 (fun k2 ic2 md2 td2 kn2 fl2 ad2 E2 h82 h92 => ?_) h8 h9
      obtain ⟨y, ey⟩ : ∃ y : Int32, y = x + 6 := ⟨_, rfl⟩
      have hy : y.toInt = 6 * ((t + 1 : Nat) : Int) := by rw [ey, ti_add hx (show (6 : Int32).toInt = 6 by decide) (by omega) (by omega)]; omega
      refine v_iinc (v := y) (lv' := [(0, .ref b), (1, .ref (ad2 0)), (2, .ref (ad2 68)), (3, .int y)]) C 3 [1, 2, 3, 0] dL_law_1288 rfl (ey.symm) (by decide) rfl ?_
      refine v_goto C 18 dL_law_1291 (by decide) ?_
      exact ih (t + 1) y k2 ic2 md2 td2 kn2 fl2 ad2 E2 hy (by omega) (by omega) h82 h92
set_option maxRecDepth 20000 in
theorem lw_all {X : Mx} {l : Launch} {G : Gl} {A : Nat → Prop} (C : Cx X l G A "OddHoursLaw" code 4 ret room_1) {b L : Nat} {xs : Nat → Int32} (hX : va_X b L xs X.s X.s.heap) (hbl : b < X.s.heap.size) (hbA : ¬ A b) (hA : ∀ q, A q → X.s.heap.size ≤ q) (hlr : X.args = #[Value.ref b]) (hL : L ≤ 3072) {ad : Nat → Nat} {E : Nat → va_E} : V X G A 4 (lw_Z X.below #[Value.ref b] X.s) 0 ad 0 0 E 0 [(0, .ref b)] [] := by
  refine w_new (ci := 8) C dL_law_0 (by decide) qL_7 zX8 gX8 (fresh_fs (by decide)) (by decide) (by decide) (fun ad1 E2 hAE2 hNE2 oNE2 => ?_)
  refine v_cast (lv' := [(0, .ref b)]) (st' := [.ref (ad1 0)]) (rfl) (rfl) ?_
  rw [← rfo_none (ad := ad1) (k := 8)] at hNE2
  have hNE2 : E2 0 = ob 8 (rfo ad1 [none, none, none, none, none, none, none, none]) ip0 := hNE2
  refine v_dup C dL_law_3 rfl ?_
  refine v_cI C 0 dL_law_4 lL_9 mX8_init (k_OddHours l G ad1 E2 hNE2) ⟨by decide, by decide⟩ rfl (Nat.le_of_ble_eq_true rfl) ⟨by decide, by decide⟩ (fun ad3 E4 hq5 => ?_)
  obtain ⟨hAa0, hOo0, hFf0⟩ := hq5
  dsimp only at hAa0 hOo0 hFf0
  have aad3_0 := hAa0 0 (by decide)
  refine v_cast (lv' := [(0, .ref b)]) (st' := [.ref (ad3 0)]) (rfl) (by rw [aad3_0]) ?_
  refine v_astore_n (lv' := [(0, .ref b), (1, .ref (ad3 0))]) C [1, 0] dL_law_7 rfl (by decide) rfl ?_
  refine w_new (ci := 9) C dL_law_8 (by decide) qL_10 zX9 gX9 (fresh_fs (by decide)) (by decide) (by decide) (fun ad6 E7 hAE7 hNE7 oNE7 => ?_)
  have aad6_0 := hAE7 0 (by decide)
  refine v_cast (lv' := [(0, .ref b), (1, .ref (ad6 0))]) (st' := [.ref (ad6 68)]) (by rw [aad6_0]) (rfl) ?_
  rw [← rfo_none (ad := ad6) (k := 42)] at hNE7
  have hNE7 : E7 68 = ob 9 (rfo ad6 [none, none, none, none, none, none, none, none, none, none, none, none, none, none, none, none, none, none, none, none, none, none, none, none, none, none, none, none, none, none, none, none, none, none, none, none, none, none, none, none, none, none]) ip0 := hNE7
  refine v_dup C dL_law_11 rfl ?_
  refine v_cI C 68 dL_law_12 lL_12 mX9_init (k_Model l G ad6 E7 hNE7) ⟨by decide, by decide⟩ rfl (Nat.le_of_ble_eq_true rfl) ⟨by decide, by decide⟩ (fun ad8 E9 hq10 => ?_)
  obtain ⟨hAa68, hOo68, hFf68⟩ := hq10
  dsimp only at hAa68 hOo68 hFf68
  have aad8_0 := hAa68 0 (by decide)
  have aad8_68 := hAa68 68 (by decide)
  refine v_cast (lv' := [(0, .ref b), (1, .ref (ad8 0))]) (st' := [.ref (ad8 68)]) (by rw [aad8_0]) (by rw [aad8_68]) ?_
  have hF8 := (hFf0.keep hAE7 oNE7).keep (fun j hj => hAa68 j (by omega)) (fun j hj => hOo68 j (by omega) (by omega))
  refine v_astore_n (lv' := [(0, .ref b), (1, .ref (ad8 0)), (2, .ref (ad8 68))]) C [1, 2, 0] dL_law_15 rfl (by decide) rfl ?_
  refine v_iconst (v := 0) C dL_law_16 (by decide) ?_
  refine v_istore_n (lv' := [(0, .ref b), (1, .ref (ad8 0)), (2, .ref (ad8 68)), (3, .int 0)]) C [1, 2, 3, 0] dL_law_17 rfl (by decide) rfl ?_
  exact v_widen (ce' := 1000 + 9 * 0) (sl' := 400000 + 3246 * 0) (by decide) (by decide) (lw_loop C hX hbl hbA hA hlr hL 512 0 0 0 _ _ _ _ _ _ _ (by decide) (by decide) (by omega) (fresh_C8 hF8) (fresh_R9 hFf68))
