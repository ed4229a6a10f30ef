/-! ===== the reference with what holds of its zones ===== -/
def ZCm (Z : (Nat → va_E) → Prop) : Prop := ∀ E E1 : Nat → va_E, Z E → (∀ j, 71 ≤ j → j ≤ 84 → E1 j = E j) → Z E1
def ZFi (l : Launch) (G : Gl) (ad : Nat → Nat) (n : Nat) (ic md : Nat → Int32) (Z : (Nat → va_E) → Prop) (kn : Int) : Prop := ∀ (bd : Nat → Int × Int) (E0 E : Nat → va_E) (x : Int32), JM G ad n ic md bd PR E0 E → bd 18 = (kn, kn) → Z E → ((0 : Int) ≤ x.toInt ∧ x.toInt ≤ 4) → CtV l G yX9_find cX9_find 7 3 70 n ad E [.ref (ad 68), .int x] (fun E' => JM G ad n ic md bd PR E0 E' ∧ Z E')
def JY (l : Launch) (Z : (Nat → va_E) → Prop) (kn : Int) (G : Gl) (ad : Nat → Nat) (n : Nat) (ic md : Nat → Int32) (bd : Nat → Int × Int) (P : Nat → Prop) (E0 E : Nat → va_E) : Prop := JM G ad n ic md bd P E0 E ∧ (Z E ∧ bd 18 = (kn, kn)) ∧ ZCm Z ∧ ZFi l G ad n ic md Z kn
section JYR
variable {l : Launch} {Z : (Nat → va_E) → Prop} {kn : Int} {G : Gl} {ad : Nat → Nat} {n : Nat} {ic md : Nat → Int32} {bd : Nat → Int × Int} {P : Nat → Prop} {E0 E E1 : Nat → va_E} {k : Nat} {a b c d : Int}
theorem upB18 (hk : 19 ≤ k) {v : Int × Int} : upB bd k v 18 = bd 18 := by
  unfold upB; rw [if_neg (by omega)]
theorem JY.hn (h : JY l Z kn G ad n ic md bd P E0 E) : 98 ≤ n := h.1.hn
theorem JY.with (h : JY l Z kn G ad n ic md bd P E0 E) (h1 : JJ G ad n TyM P E0 E1) (e1 : E1 68 = E 68) (e2 : E1 69 = E 69) (e3 : E1 70 = E 70) (o : ∀ j, 71 ≤ j → j ≤ 84 → E1 j = E j) : JY l Z kn G ad n ic md bd P E0 E1 := ⟨h.1.with h1 e1 e2 e3, ⟨h.2.2.1 E E1 h.2.1.1 o, h.2.1.2⟩, h.2.2⟩
theorem JY.put {im : Nat → Int32} {v : Int32} (h : JY l Z kn G ad n ic md bd P E0 E) (hm : MCal G ad E im ic md) (hb : ∀ q, (bd q).1 ≤ (im q).toInt ∧ (im q).toInt ≤ (bd q).2) (hk : 9 ≤ k) (hP : ¬ P 68) (hv : (bd k).1 ≤ v.toInt ∧ v.toInt ≤ (bd k).2) (h1 : E1 68 = ob 9 (rX9 ad) (va_up im k v)) (o1 : ∀ j, j ≠ 68 → E1 j = E j) : JY l Z kn G ad n ic md bd P E0 E1 ∧ MCal G ad E1 (va_up im k v) ic md ∧ ∀ q, (bd q).1 ≤ (va_up im k v q).toInt ∧ (va_up im k v q).toInt ≤ (bd q).2 := by
  obtain ⟨q1, q2, q3⟩ := h.1.put hm hb hk hP hv h1 o1
  exact ⟨⟨q1, ⟨h.2.2.1 E E1 h.2.1.1 (fun j _ _ => o1 j (by omega)), h.2.1.2⟩, h.2.2⟩, q2, q3⟩
theorem JY.mr {im : Nat → Int32} (h : JY l Z kn G ad n ic md bd P E0 E) (hb : ∀ q, (bd q).1 ≤ (im q).toInt ∧ (im q).toInt ≤ (bd q).2) (hP : ¬ P 68) (hP2 : ¬ P 70) (hm : MR G ad E E1 im ic md) : JY l Z kn G ad n ic md bd P E0 E1 := by
  have q := h.1.mr hb hP hP2 hm
  obtain ⟨im', a1, a2, a3⟩ := hm
  exact ⟨q, ⟨h.2.2.1 E E1 h.2.1.1 (fun j _ _ => a3 j (by omega) (by omega)), h.2.1.2⟩, h.2.2⟩
theorem JY.self (h : JY l Z kn G ad n ic md bd P E0 E) : JY l Z kn G ad n ic md bd PR E E := ⟨h.1.self, h.2⟩
theorem JY.trans (h : JY l Z kn G ad n ic md bd P E0 E) {bd' : Nat → Int × Int} (hP : ∀ j, P j → PR j) (h1 : JY l Z kn G ad n ic md bd' PR E E1) : JY l Z kn G ad n ic md bd' P E0 E1 := ⟨h.1.trans hP h1.1, h1.2⟩
theorem JY.pt (h : JY l Z kn G ad n ic md bd PR E0 E) : JY l Z kn G ad n ic md bd PT E0 E := ⟨h.1.pt, h.2⟩
theorem JY.toB (h : JY l Z kn G ad n ic md (upB bd k (a, b)) P E0 E) (hk : 19 ≤ k) (h1 : c ≤ a) (h2 : b ≤ d) : JY l Z kn G ad n ic md (upB bd k (c, d)) P E0 E := ⟨h.1.toB (by omega) h1 h2, ⟨h.2.1.1, by have q := h.2.1.2; rw [upB18 hk] at q ⊢; exact q⟩, h.2.2⟩
theorem JY.inB (h : JY l Z kn G ad n ic md bd P E0 E) (hk : 19 ≤ k) (h1 : c ≤ (bd k).1) (h2 : (bd k).2 ≤ d) : JY l Z kn G ad n ic md (upB bd k (c, d)) P E0 E := ⟨h.1.inB (by omega) h1 h2, ⟨h.2.1.1, by rw [upB18 hk]; exact h.2.1.2⟩, h.2.2⟩
theorem JY.outB (h : JY l Z kn G ad n ic md (upB bd k (a, b)) P E0 E) (hk : 19 ≤ k) (h1 : (bd k).1 ≤ a) (h2 : b ≤ (bd k).2) : JY l Z kn G ad n ic md bd P E0 E := ⟨h.1.outB (by omega) h1 h2, ⟨h.2.1.1, by have q := h.2.1.2; rw [upB18 hk] at q; exact q⟩, h.2.2⟩
theorem JY.putN {im : Nat → Int32} {v : Int32} (h : JY l Z kn G ad n ic md bd P E0 E) (hm : MCal G ad E im ic md) (hb : ∀ q, (bd q).1 ≤ (im q).toInt ∧ (im q).toInt ≤ (bd q).2) (hk : 19 ≤ k) (hP : ¬ P 68) (h1 : E1 68 = ob 9 (rX9 ad) (va_up im k v)) (o1 : ∀ j, j ≠ 68 → E1 j = E j) : JY l Z kn G ad n ic md (upB bd k (v.toInt, v.toInt)) P E0 E1 ∧ MCal G ad E1 (va_up im k v) ic md ∧ ∀ q, (upB bd k (v.toInt, v.toInt) q).1 ≤ (va_up im k v q).toInt ∧ (va_up im k v q).toInt ≤ (upB bd k (v.toInt, v.toInt) q).2 := by
  obtain ⟨q1, q2, q3⟩ := h.1.putN hm hb (by omega) hP h1 o1
  exact ⟨⟨q1, ⟨h.2.2.1 E E1 h.2.1.1 (fun j _ _ => o1 j (by omega)), by rw [upB18 hk]; exact h.2.1.2⟩, h.2.2⟩, q2, q3⟩
theorem JY.putB {im : Nat → Int32} {v : Int32} {ab : Int × Int} (h : JY l Z kn G ad n ic md (upB bd k ab) P E0 E) (hm : MCal G ad E im ic md) (hb : ∀ q, (upB bd k ab q).1 ≤ (im q).toInt ∧ (im q).toInt ≤ (upB bd k ab q).2) (hk : 19 ≤ k) (hP : ¬ P 68) (h1 : E1 68 = ob 9 (rX9 ad) (va_up im k v)) (o1 : ∀ j, j ≠ 68 → E1 j = E j) : JY l Z kn G ad n ic md (upB bd k (v.toInt, v.toInt)) P E0 E1 ∧ MCal G ad E1 (va_up im k v) ic md ∧ ∀ q, (upB bd k (v.toInt, v.toInt) q).1 ≤ (va_up im k v q).toInt ∧ (va_up im k v q).toInt ≤ (upB bd k (v.toInt, v.toInt) q).2 := by
  obtain ⟨q1, q2, q3⟩ := h.1.putB hm hb (by omega) hP h1 o1
  refine ⟨⟨q1, ⟨h.2.2.1 E E1 h.2.1.1 (fun j _ _ => o1 j (by omega)), ?_⟩, h.2.2⟩, q2, q3⟩
  have q := h.2.1.2
  rw [upB18 hk] at q ⊢
  exact q
theorem ty_X9_find (l : Launch) (G : Gl) (ad : Nat → Nat) {Z : (Nat → va_E) → Prop} {kn : Int} {n : Nat} {ic md : Nat → Int32} {bd : Nat → Int × Int} {E0 E : Nat → va_E} (hJ : JY l Z kn G ad n ic md bd PR E0 E) (x : Int32) (hx : (0 : Int) ≤ x.toInt ∧ x.toInt ≤ 4) : CtV l G yX9_find cX9_find 7 3 70 n ad E [.ref (ad 68), .int x] (fun E' => JY l Z kn G ad n ic md bd PR E0 E') := (hJ.2.2.2 bd E0 E x hJ.1 hJ.2.1.2 hJ.2.1.1 hx).mono (fun _ hp => ⟨hp.1, ⟨hp.2, hJ.2.1.2⟩, hJ.2.2⟩)
end JYR
theorem xy_mixOf (l : Launch) (G : Gl) (ad : Nat → Nat) {Z : (Nat → va_E) → Prop} {kn : Int} {n : Nat} {ic md : Nat → Int32} {bd : Nat → Int × Int} {E0 E : Nat → va_E} (hJ0 : JY l Z kn G ad n ic md bd PR E0 E) {fo : Nat → Int32} {m : Nat} (hfo : E 89 = aI G 10 fo) (hm : m ≤ 10) (hf32 : (m : Int) ≤ (bd 32).1 ∧ (bd 32).2 ≤ (m : Int)) (hpo : ∀ j, j < m → 0 ≤ (fo j).toInt ∧ (fo j).toInt ≤ 11) : CtI l G yX9_mixOf cX9_mixOf 2 .int 3 65 n ad E [.ref (ad 68)] (fun r E' => r.toInt = MXf fo m ∧ (∀ K : Nat → Int32, RSf fo m = some (1, K) → ∃ K1 : Nat → Int32, E' 92 = aI G 8 K1 ∧ K1 0 = K 0) ∧ JY l Z kn G ad n ic md (upB bd 35 (0, 8)) PR E0 E') := by
  have hJ := hJ0.1
  have hn := hJ.hn
  obtain ⟨im, hM, hb⟩ := hJ.1
  obtain ⟨kd, h92, -⟩ := hJ.2.1.getA (b := 92) (by omega) rfl
  have h32 := hb 32
  have hm32 : (im 32).toInt.toNat = m := by omega
  refine (m_mixOf l G n ad E hn hM.2.2.1 h92 hfo (by omega) (by omega) (fun j hj => hpo j (by omega))).mono (fun r E' hp => ?_)
  rw [hm32] at hp
  obtain ⟨hr, im1, kd1, e68, hq, h1, h2, e92, hk, hf⟩ := hp
  have e : im1 = va_up im 35 (im1 35) := by
    funext q
    by_cases h : q = 35
    · subst h; simp [va_up]
    · simp [va_up, h, hq q h]
  refine ⟨hr, fun K hK => ⟨kd1, e92, hk K hK⟩, ?_, ⟨hJ0.2.2.1 E E' hJ0.2.1.1 (fun j h1 h2 => hf j (by omega) (by omega)), by rw [upB18 (by decide)]; exact hJ0.2.1.2⟩, hJ0.2.2⟩
  refine ⟨⟨im1, ?_, fun q => ?_⟩, ⟨fun j hj => (hf j (by unfold PR at hj; omega) (by unfold PR at hj; omega)).trans (hJ.2.1.1 j hj), fun j hj => ?_⟩, hn, upB7 (by decide) hJ.2.2.2.1, upB16 (by decide) hJ.2.2.2.2⟩
  · rw [e] at e68 ⊢
    exact hM.up79 (by decide) e68 (fun j a b => hf j a (by omega))
  · unfold upB
    by_cases h : q = 35
    · rw [if_pos h, h]; exact ⟨h1, h2⟩
    · rw [if_neg h, hq q h]; exact hb q
  · by_cases q1 : j = 92
    · rw [q1]; exact HasTy.any e92
    · by_cases q2 : j = 68
      · rw [q2, TyM_out (by omega)]; exact HasTy.out
      · rw [hf j q2 q1]; exact hJ.2.1.2 j hj

set_option maxRecDepth 20000 in
theorem ty_X9_within (l : Launch) (G : Gl) (ad : Nat → Nat) {Z : (Nat → va_E) → Prop} {kn : Int} {n : Nat} {ic md : Nat → Int32} {bd : Nat → Int × Int} {E0 E : Nat → va_E} (hJ : JY l Z kn G ad n ic md bd PR E0 E) (x : Int32) (y : Int32) (z : Int32) : CtI l G yX9_within cX9_within 3 .boolean 0 0 (n) ad E [.int x, .int y, .int z] (fun r E' => ((r = 1 ∧ (y.toInt ≤ x.toInt ∧ x.toInt ≤ z.toInt)) ∨ (r = 0 ∧ ¬ (y.toInt ≤ x.toInt ∧ x.toInt ≤ z.toInt))) ∧ E = E') := by
  refine CtI.of (by decide) (Nat.le_of_ble_eq_true rfl) (fun X A C => ?_)
  refine v_sub (lv' := [(0, .int x), (1, .int y), (2, .int z)]) [0, 1, 2] rfl ?_
  have hn := hJ.hn
  have hz16 := hJ.1.2.2.2.2
  refine v_iload_n C 0 dX9_within_0 rfl rfl ?_
  refine v_iload_n C 1 dX9_within_1 rfl rfl ?_
  refine b_icmp_lt C 14 dX9_within_2 (by decide) (rfl : Int32.toInt x = _) (rfl : Int32.toInt y = _) (fun c1 => ?_) (fun c1 => ?_)
  · refine v_iconst (v := 0) C dX9_within_14 (by decide) ?_
    exact v_ret C dX9_within_15 rfl rfl ⟨Or.inr ⟨rfl, by omega⟩, rfl⟩
  · refine v_iload_n C 0 dX9_within_5 rfl rfl ?_
    refine v_iload_n C 2 dX9_within_6 rfl rfl ?_
    refine b_icmp_gt C 14 dX9_within_7 (by decide) (rfl : Int32.toInt x = _) (rfl : Int32.toInt z = _) (fun c2 => ?_) (fun c2 => ?_)
    · refine v_iconst (v := 0) C dX9_within_14 (by decide) ?_
      exact v_ret C dX9_within_15 rfl rfl ⟨Or.inr ⟨rfl, by omega⟩, rfl⟩
    · refine v_iconst (v := 1) C dX9_within_10 (by decide) ?_
      refine v_goto C 15 dX9_within_11 (by decide) ?_
      exact v_ret C dX9_within_15 rfl rfl ⟨Or.inl ⟨rfl, by omega⟩, rfl⟩

set_option maxRecDepth 20000 in
theorem ty_X9_isMoment (l : Launch) (G : Gl) (ad : Nat → Nat) {Z : (Nat → va_E) → Prop} {kn : Int} {n : Nat} {ic md : Nat → Int32} {bd : Nat → Int × Int} {E0 E : Nat → va_E} (hJ : JY l Z kn G ad n ic md bd PR E0 E) (x : Int32) : CtI l G yX9_isMoment cX9_isMoment 1 .boolean 1 22 (n) ad E [.int x] (fun r E' => ((r = 1 ∧ ((0 : Int) ≤ x.toInt ∧ x.toInt ≤ 59999999)) ∨ (r = 0 ∧ ¬ ((0 : Int) ≤ x.toInt ∧ x.toInt ≤ 59999999))) ∧ E = E') := by
  refine CtI.of (by decide) (Nat.le_of_ble_eq_true rfl) (fun X A C => ?_)
  refine v_sub (lv' := [(0, .int x)]) [0] rfl ?_
  have hn := hJ.hn
  have hz16 := hJ.1.2.2.2.2
  refine v_iload_n C 0 dX9_isMoment_0 rfl rfl ?_
  refine v_iconst (v := 0) C dX9_isMoment_1 (by decide) ?_
  refine v_ldc C dX9_isMoment_2 kX9_178 ?_
  refine v_cSp C dX9_isMoment_4 lX9_131 mX9_within (ty_X9_within l G ad hJ x 0 59999999) ⟨by decide, by decide⟩ rfl (Nat.le_of_ble_eq_true rfl) ⟨Nat.zero_le _, Nat.zero_le _⟩ (fun r1 hp2 => ?_)
  have := (show (0 : Int32).toInt = 0 by decide)
  have := (show (59999999 : Int32).toInt = 59999999 by decide)
  rcases hp2 with ⟨rfl, hp2⟩ | ⟨rfl, hp2⟩
  · exact v_ret C dX9_isMoment_7 rfl rfl ⟨Or.inl ⟨rfl, by omega⟩, rfl⟩
  · exact v_ret C dX9_isMoment_7 rfl rfl ⟨Or.inr ⟨rfl, by omega⟩, rfl⟩

set_option maxRecDepth 20000 in
theorem ty_X9_isProgram (l : Launch) (G : Gl) (ad : Nat → Nat) {Z : (Nat → va_E) → Prop} {kn : Int} {n : Nat} {ic md : Nat → Int32} {bd : Nat → Int × Int} {E0 E : Nat → va_E} (hJ : JY l Z kn G ad n ic md bd PR E0 E) (x : Int32) : CtI l G yX9_isProgram cX9_isProgram 1 .boolean 1 22 (n) ad E [.int x] (fun r E' => ((r = 1 ∧ ((0 : Int) ≤ x.toInt ∧ x.toInt ≤ 5)) ∨ (r = 0 ∧ ¬ ((0 : Int) ≤ x.toInt ∧ x.toInt ≤ 5))) ∧ E = E') := by
  refine CtI.of (by decide) (Nat.le_of_ble_eq_true rfl) (fun X A C => ?_)
  refine v_sub (lv' := [(0, .int x)]) [0] rfl ?_
  have hn := hJ.hn
  have hz16 := hJ.1.2.2.2.2
  refine v_iload_n C 0 dX9_isProgram_0 rfl rfl ?_
  refine v_iconst (v := 0) C dX9_isProgram_1 (by decide) ?_
  refine v_iconst (v := 5) C dX9_isProgram_2 (by decide) ?_
  refine v_cSp C dX9_isProgram_3 lX9_131 mX9_within (ty_X9_within l G ad hJ x 0 5) ⟨by decide, by decide⟩ rfl (Nat.le_of_ble_eq_true rfl) ⟨Nat.zero_le _, Nat.zero_le _⟩ (fun r1 hp2 => ?_)
  have := (show (0 : Int32).toInt = 0 by decide)
  have := (show (5 : Int32).toInt = 5 by decide)
  rcases hp2 with ⟨rfl, hp2⟩ | ⟨rfl, hp2⟩
  · exact v_ret C dX9_isProgram_6 rfl rfl ⟨Or.inl ⟨rfl, by omega⟩, rfl⟩
  · exact v_ret C dX9_isProgram_6 rfl rfl ⟨Or.inr ⟨rfl, by omega⟩, rfl⟩

set_option maxRecDepth 20000 in
theorem ty_X9_isZone (l : Launch) (G : Gl) (ad : Nat → Nat) {Z : (Nat → va_E) → Prop} {kn : Int} {n : Nat} {ic md : Nat → Int32} {bd : Nat → Int × Int} {E0 E : Nat → va_E} (hJ : JY l Z kn G ad n ic md bd PR E0 E) (x : Int32) : CtI l G yX9_isZone cX9_isZone 2 .boolean 0 0 (n) ad E [.ref (ad 68), .int x] (fun r E' => ((r = 1 ∧ ((0 : Int) ≤ x.toInt ∧ x.toInt < (bd 16).2)) ∨ (r = 0 ∧ ¬ ((0 : Int) ≤ x.toInt ∧ x.toInt < (bd 16).1))) ∧ E = E') := by
  refine CtI.of (by decide) (Nat.le_of_ble_eq_true rfl) (fun X A C => ?_)
  refine v_sub (lv' := [(0, .ref (ad 68)), (1, .int x)]) [0, 1] rfl ?_
  have hn := hJ.hn
  have hz16 := hJ.1.2.2.2.2
  refine v_iload_n C 1 dX9_isZone_0 rfl rfl ?_
  refine b_if_lt C 16 dX9_isZone_1 (by decide) (rfl : Int32.toInt x = _) (fun c1 => ?_) (fun c1 => ?_)
  · refine v_iconst (v := 0) C dX9_isZone_16 (by decide) ?_
    exact v_ret C dX9_isZone_17 rfl rfl ⟨Or.inr ⟨rfl, by omega⟩, rfl⟩
  · refine v_iload_n C 1 dX9_isZone_4 rfl rfl ?_
    refine v_aload_n C 0 dX9_isZone_5 rfl rfl ?_
    obtain ⟨im2, hM2, hb2⟩ := hJ.1.1
    have hq2 := hM2.b
    refine v_geti (v := im2 16) C 68 dX9_isZone_6 fX9_135 (by omega) hM2.2.2.1 rfl rfl ?_
    have him2_16r := hb2 16
    have him2_16 : (0 : Int) ≤ (im2 16).toInt ∧ (im2 16).toInt ≤ 5 := by have := hb2 16; omega
    refine b_icmp_ge C 16 dX9_isZone_9 (by decide) (rfl : Int32.toInt x = _) (rfl : Int32.toInt (im2 16) = _) (fun c3 => ?_) (fun c3 => ?_)
    · refine v_iconst (v := 0) C dX9_isZone_16 (by decide) ?_
      exact v_ret C dX9_isZone_17 rfl rfl ⟨Or.inr ⟨rfl, by omega⟩, rfl⟩
    · refine v_iconst (v := 1) C dX9_isZone_12 (by decide) ?_
      refine v_goto C 17 dX9_isZone_13 (by decide) ?_
      exact v_ret C dX9_isZone_17 rfl rfl ⟨Or.inl ⟨rfl, by omega⟩, rfl⟩

set_option maxRecDepth 20000 in
theorem ty_X9_weekday (l : Launch) (G : Gl) (ad : Nat → Nat) {Z : (Nat → va_E) → Prop} {kn : Int} {n : Nat} {ic md : Nat → Int32} {bd : Nat → Int × Int} {E0 E : Nat → va_E} (hJ : JY l Z kn G ad n ic md bd PR E0 E) (x : Int32) : CtI l G yX9_weekday cX9_weekday 2 .int 0 0 (n) ad E [.ref (ad 68), .int x] (fun r E' => ((-2147483648 : Int) ≤ r.toInt ∧ r.toInt ≤ 2147483647) ∧ E = E') := by
  refine CtI.of (by decide) (Nat.le_of_ble_eq_true rfl) (fun X A C => ?_)
  refine v_sub (lv' := [(0, .ref (ad 68)), (1, .int x)]) [0, 1] rfl ?_
  have hn := hJ.hn
  have hz16 := hJ.1.2.2.2.2
  refine v_iload_n C 1 dX9_weekday_0 rfl rfl ?_
  refine v_aload_n C 0 dX9_weekday_1 rfl rfl ?_
  obtain ⟨im1, hM1, hb1⟩ := hJ.1.1
  have hq1 := hM1.b
  refine v_geti (v := im1 5) C 68 dX9_weekday_2 fX9_138 (by omega) hM1.2.2.1 rfl rfl ?_
  refine v_iadd C dX9_weekday_5 ?_
  refine v_top (fun x2 _ => ?_)
  refine v_aload_n C 0 dX9_weekday_6 rfl rfl ?_
  refine v_geti (v := im1 4) C 68 dX9_weekday_7 fX9_23 (by omega) hM1.2.2.1 rfl rfl ?_
  refine v_irem C dX9_weekday_10 (ti_ne (rfl : Int32.toInt (im1 4) = _) (show (0 : Int32).toInt = 0 by decide) (by omega)) ?_
  refine v_top (fun x3 _ => ?_)
  exact v_ret C dX9_weekday_11 rfl rfl ⟨(ti_any x3), rfl⟩

set_option maxRecDepth 20000 in
theorem ty_X9_monthOf (l : Launch) (G : Gl) (ad : Nat → Nat) {Z : (Nat → va_E) → Prop} {kn : Int} {n : Nat} {ic md : Nat → Int32} {bd : Nat → Int × Int} {E0 E : Nat → va_E} (hJ : JY l Z kn G ad n ic md bd PR E0 E) (x : Int32) : CtI l G yX9_monthOf cX9_monthOf 5 .int 2 44 (n) ad E [.ref (ad 68), .int x] (fun r E' => ((0 : Int) ≤ r.toInt ∧ r.toInt ≤ 1199) ∧ JY l Z kn G ad n ic md bd PR E0 E') := by
  refine CtI.of (by decide) (Nat.le_of_ble_eq_true rfl) (fun X A C => ?_)
  refine v_sub (lv' := [(0, .ref (ad 68)), (1, .int x)]) [0, 1] rfl ?_
  have hn := hJ.hn
  have hz16 := hJ.1.2.2.2.2
  refine v_aload_n C 0 dX9_monthOf_0 rfl rfl ?_
  obtain ⟨im5, hM5, hb5⟩ := hJ.1.1
  have hq5 := hM5.b
  refine v_cVv C dX9_monthOf_1 lX9_124 mX9_countDays 68 (by omega) hM5.2.2.1 (by decide) rfl (d_countDays l G _ ad _ hn hM5 ) ⟨by decide, by decide⟩ rfl (Nat.le_of_ble_eq_true rfl) ⟨Nat.zero_le _, Nat.zero_le _⟩ (fun E2 hq3 => ?_)
  have hJ4 := hJ.mr hb5 (by unfold PR; omega) (by unfold PR; omega) (MR1.mr hq3)
  have hcyr1 := cal_y hM5.2.1
  refine v_iconst (v := 0) C dX9_monthOf_4 (by decide) ?_
  refine v_istore_n (lv' := [(0, .ref (ad 68)), (1, .int x), (2, .int 0)]) C [1, 2, 0] dX9_monthOf_5 rfl (by decide) rfl ?_
  refine v_sipush (v := 1199) C dX9_monthOf_6 (by decide) ?_
  refine v_istore_n (lv' := [(0, .ref (ad 68)), (1, .int x), (2, .int 0), (3, .int 1199)]) C [1, 2, 3, 0] dX9_monthOf_9 rfl (by decide) rfl ?_
  have LP6 : ∀ (t : Nat) (E10 : Nat → va_E) (y7 : Int32) (y8 : Int32), JY l Z kn G ad n ic md bd PR E0 E10 → ((0 : Int) ≤ y7.toInt ∧ y7.toInt ≤ 1199) → ((0 : Int) ≤ y8.toInt ∧ y8.toInt ≤ 1199) → (y7.toInt ≤ y8.toInt) → y8.toInt - y7.toInt < (t : Int) → V X G A 5 (QI X G A (n) ad (fun r E' => ((0 : Int) ≤ r.toInt ∧ r.toInt ≤ 1199) ∧ JY l Z kn G ad n ic md bd PR E0 E')) n ad 0 0 E10 10 [(0, .ref (ad 68)), (1, .int x), (2, .int y7), (3, .int y8)] [] := by
    intro t14
    induction t14 with
    | zero => intro E10 y7 y8 hJ11 hy7 hy8 hq9 hm13; exfalso; omega
    | succ t14 ih12 =>
      intro E10 y7 y8 hJ11 hy7 hy8 hq9 hm13
      refine v_iload_n C 2 dX9_monthOf_10 rfl rfl ?_
      refine v_iload_n C 3 dX9_monthOf_11 rfl rfl ?_
      refine b_icmp_ge C 49 dX9_monthOf_12 (by decide) (rfl : Int32.toInt y7 = _) (rfl : Int32.toInt y8 = _) (fun c15 => ?_) (fun c15 => ?_)
      · refine v_iload_n C 2 dX9_monthOf_49 rfl rfl ?_
        exact v_ret C dX9_monthOf_50 rfl rfl ⟨(show (0 : Int) ≤ Int32.toInt y7 ∧ Int32.toInt y7 ≤ 1199 by omega), hJ11⟩
      · refine v_iload_n C 2 dX9_monthOf_15 rfl rfl ?_
        refine v_iload_n C 3 dX9_monthOf_16 rfl rfl ?_
        refine v_iadd C dX9_monthOf_17 ?_
        refine v_top (fun x16 ex16 => ?_)
        have hx16 : x16.toInt = (y7.toInt + y8.toInt) := by rw [ex16]; exact ti_add (rfl : Int32.toInt y7 = _) (rfl : Int32.toInt y8 = _) (by omega) (by omega)
        refine v_iconst (v := 1) C dX9_monthOf_18 (by decide) ?_
        refine v_iadd C dX9_monthOf_19 ?_
        refine v_top (fun x17 ex17 => ?_)
        have hx17 : x17.toInt = ((y7.toInt + y8.toInt) + 1) := by rw [ex17]; exact ti_add hx16 (show (1 : Int32).toInt = 1 by decide) (by omega) (by omega)
        refine v_iconst (v := 2) C dX9_monthOf_20 (by decide) ?_
        refine v_idiv C dX9_monthOf_21 (by decide) ?_
        refine v_top (fun x18 ex18 => ?_)
        have hx18 : x18.toInt = (((y7.toInt + y8.toInt) + 1) / 2) := by rw [ex18]; exact ti_div hx17 (show (2 : Int32).toInt = 2 by decide) (by omega) (by omega)
        refine v_istore (lv' := [(0, .ref (ad 68)), (1, .int x), (2, .int y7), (3, .int y8), (4, .int x18)]) C [1, 2, 3, 4, 0] dX9_monthOf_22 (by decide) rfl ?_
        refine v_aload_n C 0 dX9_monthOf_24 rfl rfl ?_
        obtain ⟨im19, hM19, hb19⟩ := hJ11.1.1
        have hq19 := hM19.b
        refine v_getr C 68 dX9_monthOf_25 fX9_26 (by omega) hM19.2.2.1 rfl rfl ?_
        refine v_iload C 4 dX9_monthOf_28 rfl ?_
        obtain ⟨mf20, hE20, -, -⟩ := hM19.2.2.2.2.2
        refine v_ald (v := mf20 ((((y7.toInt + y8.toInt) + 1) / 2)).toNat) C 70 dX9_monthOf_30 (by omega) hE20 (ti_in hx18 (by omega) (by omega)) (by rw [ti_cl hx18]) ?_
        refine v_top (fun x21 _ => ?_)
        refine v_iload_n C 1 dX9_monthOf_31 rfl rfl ?_
        refine b_icmp_gt C 41 dX9_monthOf_32 (by decide) (rfl : Int32.toInt x21 = _) (rfl : Int32.toInt x = _) (fun c22 => ?_) (fun c22 => ?_)
        · refine v_iload C 4 dX9_monthOf_41 rfl ?_
          refine v_iconst (v := 1) C dX9_monthOf_43 (by decide) ?_
          refine v_isub C dX9_monthOf_44 ?_
          refine v_top (fun x23 ex23 => ?_)
          have hx23 : x23.toInt = ((((y7.toInt + y8.toInt) + 1) / 2) - 1) := by rw [ex23]; exact ti_sub hx18 (show (1 : Int32).toInt = 1 by decide) (by omega) (by omega)
          refine v_istore_n (lv' := [(0, .ref (ad 68)), (1, .int x), (2, .int y7), (3, .int x23), (4, .int x18)]) C [1, 2, 3, 0, 4] dX9_monthOf_45 rfl (by decide) rfl ?_
          refine v_goto C 10 dX9_monthOf_46 (by decide) ?_
          refine v_sub (lv' := [(0, .ref (ad 68)), (1, .int x), (2, .int y7), (3, .int x23)]) [0, 1, 2, 3] rfl ?_
          exact ih12 _ y7 x23 hJ11 (by have := hx23; omega) (by have := hx23; omega) (by have := hx23; omega) (by have := hx23; omega)
        · refine v_iload C 4 dX9_monthOf_35 rfl ?_
          refine v_istore_n (lv' := [(0, .ref (ad 68)), (1, .int x), (2, .int x18), (3, .int y8), (4, .int x18)]) C [1, 2, 0, 3, 4] dX9_monthOf_37 rfl (by decide) rfl ?_
          refine v_goto C 46 dX9_monthOf_38 (by decide) ?_
          refine v_goto C 10 dX9_monthOf_46 (by decide) ?_
          refine v_sub (lv' := [(0, .ref (ad 68)), (1, .int x), (2, .int x18), (3, .int y8)]) [0, 1, 2, 3] rfl ?_
          exact ih12 _ x18 y8 hJ11 (by have := hx18; omega) (by have := hx18; omega) (by have := hx18; omega) (by have := hx18; omega)
  exact LP6 100000 _ 0 1199 hJ4 (by have := (show (0 : Int32).toInt = 0 by decide); have := (show (1199 : Int32).toInt = 1199 by decide); omega) (by have := (show (0 : Int32).toInt = 0 by decide); have := (show (1199 : Int32).toInt = 1199 by decide); omega) (by have := (show (0 : Int32).toInt = 0 by decide); have := (show (1199 : Int32).toInt = 1199 by decide); omega) (by have := (show (0 : Int32).toInt = 0 by decide); have := (show (1199 : Int32).toInt = 1199 by decide); omega)

set_option maxRecDepth 20000 in
theorem ty_X9_later (l : Launch) (G : Gl) (ad : Nat → Nat) {Z : (Nat → va_E) → Prop} {kn : Int} {n : Nat} {ic md : Nat → Int32} {bd : Nat → Int × Int} {E0 E : Nat → va_E} (hJ : JY l Z kn G ad n ic md bd PR E0 E) (x : Int32) (y : Int32) (z : Int32) : CtI l G yX9_later cX9_later 9 .int 4 85 (n) ad E [.ref (ad 68), .int x, .int y, .int z] (fun r E' => ((-2147483648 : Int) ≤ r.toInt ∧ r.toInt ≤ 2147483647) ∧ JY l Z kn G ad n ic md bd PR E0 E') := by
  refine CtI.of (by decide) (Nat.le_of_ble_eq_true rfl) (fun X A C => ?_)
  refine v_sub (lv' := [(0, .ref (ad 68)), (1, .int x), (2, .int y), (3, .int z)]) [0, 1, 2, 3] rfl ?_
  have hn := hJ.hn
  have hz16 := hJ.1.2.2.2.2
  refine v_aload_n C 0 dX9_later_0 rfl rfl ?_
  refine v_iload_n C 1 dX9_later_1 rfl rfl ?_
  obtain ⟨im5, hM5, hb5⟩ := hJ.1.1
  have hq5 := hM5.b
  refine v_cVi C dX9_later_2 lX9_145 mX9_monthOf 68 (by omega) hM5.2.2.1 (by decide) rfl (ty_X9_monthOf l G ad hJ x) ⟨by decide, by decide⟩ rfl (Nat.le_of_ble_eq_true rfl) ⟨Nat.zero_le _, Nat.zero_le _⟩ (fun r1 E2 hp3 => ?_)
  obtain ⟨hp3, hJ4⟩ := hp3
  refine v_istore (lv' := [(0, .ref (ad 68)), (1, .int x), (2, .int y), (3, .int z), (4, .int r1)]) C [1, 2, 3, 4, 0] dX9_later_5 (by decide) rfl ?_
  refine v_iload_n C 1 dX9_later_7 rfl rfl ?_
  refine v_aload_n C 0 dX9_later_8 rfl rfl ?_
  obtain ⟨im6, hM6, hb6⟩ := hJ4.1.1
  have hq6 := hM6.b
  refine v_getr C 68 dX9_later_9 fX9_26 (by omega) hM6.2.2.1 rfl rfl ?_
  refine v_iload C 4 dX9_later_12 rfl ?_
  obtain ⟨mf7, hE7, -, -⟩ := hM6.2.2.2.2.2
  refine v_ald (v := mf7 (r1.toInt).toNat) C 70 dX9_later_14 (by omega) hE7 (ti_in (rfl : Int32.toInt r1 = _) (by omega) (by omega)) (by rw [ti_cl (rfl : Int32.toInt r1 = _)]) ?_
  refine v_top (fun x8 _ => ?_)
  refine v_isub C dX9_later_15 ?_
  refine v_top (fun x9 _ => ?_)
  refine v_istore (lv' := [(0, .ref (ad 68)), (1, .int x), (2, .int y), (3, .int z), (4, .int r1), (5, .int x9)]) C [1, 2, 3, 4, 5, 0] dX9_later_16 (by decide) rfl ?_
  refine v_iload C 4 dX9_later_18 rfl ?_
  refine v_iload_n C 2 dX9_later_20 rfl rfl ?_
  refine v_iadd C dX9_later_21 ?_
  refine v_top (fun x10 _ => ?_)
  refine v_istore (lv' := [(0, .ref (ad 68)), (1, .int x), (2, .int y), (3, .int z), (4, .int r1), (5, .int x9), (6, .int x10)]) C [1, 2, 3, 4, 5, 6, 0] dX9_later_22 (by decide) rfl ?_
  refine v_iload C 6 dX9_later_24 rfl ?_
  refine b_if_lt C 37 dX9_later_26 (by decide) (rfl : Int32.toInt x10 = _) (fun c11 => ?_) (fun c11 => ?_)
  · refine v_iconst (v := (-1)) C dX9_later_37 (by decide) ?_
    exact v_ret C dX9_later_38 rfl rfl ⟨(ti_any (-1)), hJ4⟩
  · refine v_iload C 6 dX9_later_29 rfl ?_
    refine v_sipush (v := 1200) C dX9_later_31 (by decide) ?_
    refine b_icmp_lt C 39 dX9_later_34 (by decide) (rfl : Int32.toInt x10 = _) (show (1200 : Int32).toInt = 1200 by decide) (fun c12 => ?_) (fun c12 => ?_)
    · refine v_aload_n C 0 dX9_later_39 rfl rfl ?_
      refine v_getr C 68 dX9_later_40 fX9_26 (by omega) hM6.2.2.1 rfl rfl ?_
      refine v_iload C 6 dX9_later_43 rfl ?_
      refine v_iconst (v := 1) C dX9_later_45 (by decide) ?_
      refine v_iadd C dX9_later_46 ?_
      refine v_top (fun x13 ex13 => ?_)
      have hx13 : x13.toInt = (x10.toInt + 1) := by rw [ex13]; exact ti_add (rfl : Int32.toInt x10 = _) (show (1 : Int32).toInt = 1 by decide) (by omega) (by omega)
      refine v_ald (v := mf7 ((x10.toInt + 1)).toNat) C 70 dX9_later_47 (by omega) hE7 (ti_in hx13 (by omega) (by omega)) (by rw [ti_cl hx13]) ?_
      refine v_top (fun x14 _ => ?_)
      refine v_aload_n C 0 dX9_later_48 rfl rfl ?_
      refine v_getr C 68 dX9_later_49 fX9_26 (by omega) hM6.2.2.1 rfl rfl ?_
      refine v_iload C 6 dX9_later_52 rfl ?_
      refine v_ald (v := mf7 (x10.toInt).toNat) C 70 dX9_later_54 (by omega) hE7 (ti_in (rfl : Int32.toInt x10 = _) (by omega) (by omega)) (by rw [ti_cl (rfl : Int32.toInt x10 = _)]) ?_
      refine v_top (fun x15 _ => ?_)
      refine v_isub C dX9_later_55 ?_
      refine v_top (fun x16 _ => ?_)
      refine v_istore (lv' := [(0, .ref (ad 68)), (1, .int x), (2, .int y), (3, .int z), (4, .int r1), (5, .int x9), (6, .int x10), (7, .int x16)]) C [1, 2, 3, 4, 5, 6, 7, 0] dX9_later_56 (by decide) rfl ?_
      refine v_iload C 5 dX9_later_58 rfl ?_
      refine v_iload C 7 dX9_later_60 rfl ?_
      refine b_icmp_ge C 76 dX9_later_62 (by decide) (rfl : Int32.toInt x9 = _) (rfl : Int32.toInt x16 = _) (fun c17 => ?_) (fun c17 => ?_)
      · refine v_iload_n C 3 dX9_later_76 rfl rfl ?_
        refine b_if_ne C 92 dX9_later_77 (by decide) (rfl : Int32.toInt z = _) (fun c18 => ?_) (fun c18 => ?_)
        · refine v_aload_n C 0 dX9_later_92 rfl rfl ?_
          refine v_getr C 68 dX9_later_93 fX9_26 (by omega) hM6.2.2.1 rfl rfl ?_
          refine v_iload C 6 dX9_later_96 rfl ?_
          refine v_ald (v := mf7 (x10.toInt).toNat) C 70 dX9_later_98 (by omega) hE7 (ti_in (rfl : Int32.toInt x10 = _) (by omega) (by omega)) (by rw [ti_cl (rfl : Int32.toInt x10 = _)]) ?_
          refine v_top (fun x19 _ => ?_)
          refine v_iload C 5 dX9_later_99 rfl ?_
          refine v_iadd C dX9_later_101 ?_
          refine v_top (fun x20 _ => ?_)
          refine v_istore (lv' := [(0, .ref (ad 68)), (1, .int x), (2, .int y), (3, .int z), (4, .int r1), (5, .int x9), (6, .int x10), (7, .int x16), (8, .int x20)]) C [1, 2, 3, 4, 5, 6, 7, 8, 0] dX9_later_102 (by decide) rfl ?_
          refine v_iload_n C 3 dX9_later_104 rfl rfl ?_
          refine v_iconst (v := 1) C dX9_later_105 (by decide) ?_
          refine b_icmp_ne C 123 dX9_later_106 (by decide) (rfl : Int32.toInt z = _) (show (1 : Int32).toInt = 1 by decide) (fun c21 => ?_) (fun c21 => ?_)
          · refine v_iconst (v := (-1)) C dX9_later_123 (by decide) ?_
            exact v_ret C dX9_later_124 rfl rfl ⟨(ti_any (-1)), hJ4⟩
          · refine v_aload_n C 0 dX9_later_109 rfl rfl ?_
            refine v_iload C 8 dX9_later_110 rfl ?_
            refine v_cVi C dX9_later_112 lX9_141 mX9_isDay 68 (by omega) hM6.2.2.1 (by decide) rfl (d_isDay l G _ ad _ hn hM6 x20) ⟨by decide, by decide⟩ rfl (Nat.le_of_ble_eq_true rfl) ⟨Nat.zero_le _, Nat.zero_le _⟩ (fun r22 E23 hq24 => ?_)
            obtain ⟨hq24, hq24m⟩ := hq24
            have hJ25 := hJ4.mr hb6 (by unfold PR; omega) (by unfold PR; omega) hq24m
            have hcyr22 := cal_y hM6.2.1
            rcases hq24 with ⟨rfl, hq24⟩ | ⟨rfl, hq24⟩
            · refine b_if_eq C 123 dX9_later_115 (by decide) (show (1 : Int32).toInt = 1 by decide) (fun c26 => absurd c26 (by decide)) (fun c26 => ?_)
              refine v_iload C 8 dX9_later_118 rfl ?_
              refine v_goto C 124 dX9_later_120 (by decide) ?_
              exact v_ret C dX9_later_124 rfl rfl ⟨(ti_any x20), hJ25⟩
            · refine b_if_eq C 123 dX9_later_115 (by decide) (show (0 : Int32).toInt = 0 by decide) (fun c27 => ?_) (fun c27 => absurd c27 (by decide))
              refine v_iconst (v := (-1)) C dX9_later_123 (by decide) ?_
              exact v_ret C dX9_later_124 rfl rfl ⟨(ti_any (-1)), hJ25⟩
        · refine v_aload_n C 0 dX9_later_80 rfl rfl ?_
          refine v_getr C 68 dX9_later_81 fX9_26 (by omega) hM6.2.2.1 rfl rfl ?_
          refine v_iload C 6 dX9_later_84 rfl ?_
          refine v_iconst (v := 1) C dX9_later_86 (by decide) ?_
          refine v_iadd C dX9_later_87 ?_
          refine v_top (fun x28 ex28 => ?_)
          have hx28 : x28.toInt = (x10.toInt + 1) := by rw [ex28]; exact ti_add (rfl : Int32.toInt x10 = _) (show (1 : Int32).toInt = 1 by decide) (by omega) (by omega)
          refine v_ald (v := mf7 ((x10.toInt + 1)).toNat) C 70 dX9_later_88 (by omega) hE7 (ti_in hx28 (by omega) (by omega)) (by rw [ti_cl hx28]) ?_
          refine v_top (fun x29 _ => ?_)
          refine v_iconst (v := 1) C dX9_later_89 (by decide) ?_
          refine v_isub C dX9_later_90 ?_
          refine v_top (fun x30 _ => ?_)
          exact v_ret C dX9_later_91 rfl rfl ⟨(ti_any x30), hJ4⟩
      · refine v_aload_n C 0 dX9_later_65 rfl rfl ?_
        refine v_getr C 68 dX9_later_66 fX9_26 (by omega) hM6.2.2.1 rfl rfl ?_
        refine v_iload C 6 dX9_later_69 rfl ?_
        refine v_ald (v := mf7 (x10.toInt).toNat) C 70 dX9_later_71 (by omega) hE7 (ti_in (rfl : Int32.toInt x10 = _) (by omega) (by omega)) (by rw [ti_cl (rfl : Int32.toInt x10 = _)]) ?_
        refine v_top (fun x31 _ => ?_)
        refine v_iload C 5 dX9_later_72 rfl ?_
        refine v_iadd C dX9_later_74 ?_
        refine v_top (fun x32 _ => ?_)
        exact v_ret C dX9_later_75 rfl rfl ⟨(ti_any x32), hJ4⟩
    · refine v_iconst (v := (-1)) C dX9_later_37 (by decide) ?_
      exact v_ret C dX9_later_38 rfl rfl ⟨(ti_any (-1)), hJ4⟩

set_option maxRecDepth 20000 in
theorem ty_X9_spanEnd (l : Launch) (G : Gl) (ad : Nat → Nat) {Z : (Nat → va_E) → Prop} {kn : Int} {n : Nat} {ic md : Nat → Int32} {bd : Nat → Int × Int} {E0 E : Nat → va_E} (hJ : JY l Z kn G ad n ic md bd PR E0 E) (x : Int32) (hx : (0 : Int) ≤ x.toInt ∧ x.toInt ≤ 4) (y : Int32) (hy : (0 : Int) ≤ y.toInt ∧ y.toInt ≤ 800) (hpre0 : ∀ f : Nat → Int32, E 82 = aI G 5 f → y.toInt ≤ (f (x.toInt).toNat).toInt) : CtI l G yX9_spanEnd cX9_spanEnd 4 .int 0 0 (n) ad E [.ref (ad 68), .int x, .int y] (fun r E' => ((-2147483648 : Int) ≤ r.toInt ∧ r.toInt ≤ 2147483647) ∧ E = E') := by
  refine CtI.of (by decide) (Nat.le_of_ble_eq_true rfl) (fun X A C => ?_)
  refine v_sub (lv' := [(0, .ref (ad 68)), (1, .int x), (2, .int y)]) [0, 1, 2] rfl ?_
  have hn := hJ.hn
  have hz16 := hJ.1.2.2.2.2
  refine v_iload_n C 2 dX9_spanEnd_0 rfl rfl ?_
  refine v_aload_n C 0 dX9_spanEnd_1 rfl rfl ?_
  obtain ⟨im1, hM1, hb1⟩ := hJ.1.1
  have hq1 := hM1.b
  refine v_getr C 68 dX9_spanEnd_2 fX9_67 (by omega) hM1.2.2.1 rfl rfl ?_
  refine v_iload_n C 1 dX9_spanEnd_5 rfl rfl ?_
  obtain ⟨f3, hE3, hb3⟩ := hJ.1.2.1.getA (b := 82) (by omega) rfl
  refine v_ald (v := f3 (x.toInt).toNat) C 82 dX9_spanEnd_6 (by omega) hE3 (ti_in (rfl : Int32.toInt x = _) (by omega) (by omega)) (by rw [ti_cl (rfl : Int32.toInt x = _)]) ?_
  refine v_top (fun x4 ex4 => ?_)
  have hx4 : (0 : Int) ≤ x4.toInt ∧ x4.toInt ≤ 800 := by rw [ex4]; exact hb3 _
  have hk5 := hpre0 f3 hE3
  rw [← ex4] at hk5
  refine b_icmp_ne C 15 dX9_spanEnd_7 (by decide) (rfl : Int32.toInt y = _) (rfl : Int32.toInt x4 = _) (fun c6 => ?_) (fun c6 => ?_)
  · refine v_aload_n C 0 dX9_spanEnd_15 rfl rfl ?_
    refine v_getr C 68 dX9_spanEnd_16 fX9_61 (by omega) hM1.2.2.1 rfl rfl ?_
    refine v_sipush (v := 801) C dX9_spanEnd_19 (by decide) ?_
    refine v_iload_n C 1 dX9_spanEnd_22 rfl rfl ?_
    refine v_imul C dX9_spanEnd_23 ?_
    refine v_top (fun x7 ex7 => ?_)
    have hx7 : x7.toInt = (801 * x.toInt) := by rw [ex7]; exact ti_mul (show (801 : Int32).toInt = 801 by decide) (rfl : Int32.toInt x = _) (by omega) (by omega)
    refine v_iload_n C 2 dX9_spanEnd_24 rfl rfl ?_
    refine v_iadd C dX9_spanEnd_25 ?_
    refine v_top (fun x8 ex8 => ?_)
    have hx8 : x8.toInt = ((801 * x.toInt) + y.toInt) := by rw [ex8]; exact ti_add hx7 (rfl : Int32.toInt y = _) (by omega) (by omega)
    refine v_iconst (v := 1) C dX9_spanEnd_26 (by decide) ?_
    refine v_iadd C dX9_spanEnd_27 ?_
    refine v_top (fun x9 ex9 => ?_)
    have hx9 : x9.toInt = (((801 * x.toInt) + y.toInt) + 1) := by rw [ex9]; exact ti_add hx8 (show (1 : Int32).toInt = 1 by decide) (by omega) (by omega)
    obtain ⟨f11, hE11, hb11⟩ := hJ.1.2.1.getA (b := 80) (by omega) rfl
    refine v_ald (v := f11 ((((801 * x.toInt) + y.toInt) + 1)).toNat) C 80 dX9_spanEnd_28 (by omega) hE11 (ti_in hx9 (by omega) (by omega)) (by rw [ti_cl hx9]) ?_
    refine v_top (fun x12 _ => ?_)
    refine v_iconst (v := 1) C dX9_spanEnd_29 (by decide) ?_
    refine v_isub C dX9_spanEnd_30 ?_
    refine v_top (fun x13 _ => ?_)
    refine v_istore_n (lv' := [(0, .ref (ad 68)), (1, .int x), (2, .int y), (3, .int x13)]) C [1, 2, 3, 0] dX9_spanEnd_31 rfl (by decide) rfl ?_
    refine v_iload_n C 3 dX9_spanEnd_32 rfl rfl ?_
    refine v_ldc C dX9_spanEnd_33 kX9_178 ?_
    refine b_icmp_ge C 42 dX9_spanEnd_35 (by decide) (rfl : Int32.toInt x13 = _) (show (59999999 : Int32).toInt = 59999999 by decide) (fun c14 => ?_) (fun c14 => ?_)
    · refine v_ldc C dX9_spanEnd_42 kX9_178 ?_
      exact v_ret C dX9_spanEnd_44 rfl rfl ⟨(ti_any 59999999), rfl⟩
    · refine v_iload_n C 3 dX9_spanEnd_38 rfl rfl ?_
      refine v_goto C 44 dX9_spanEnd_39 (by decide) ?_
      exact v_ret C dX9_spanEnd_44 rfl rfl ⟨(ti_any x13), rfl⟩
  · refine v_ldc C dX9_spanEnd_10 kX9_178 ?_
    refine v_goto C 31 dX9_spanEnd_12 (by decide) ?_
    refine v_istore_n (lv' := [(0, .ref (ad 68)), (1, .int x), (2, .int y), (3, .int 59999999)]) C [1, 2, 3, 0] dX9_spanEnd_31 rfl (by decide) rfl ?_
    refine v_iload_n C 3 dX9_spanEnd_32 rfl rfl ?_
    refine v_ldc C dX9_spanEnd_33 kX9_178 ?_
    refine b_icmp_ge C 42 dX9_spanEnd_35 (by decide) (show (59999999 : Int32).toInt = 59999999 by decide) (show (59999999 : Int32).toInt = 59999999 by decide) (fun c15 => ?_) (fun c15 => absurd c15 (by decide))
    refine v_ldc C dX9_spanEnd_42 kX9_178 ?_
    exact v_ret C dX9_spanEnd_44 rfl rfl ⟨(ti_any 59999999), rfl⟩

set_option maxRecDepth 20000 in
theorem ty_X9_isWall (l : Launch) (G : Gl) (ad : Nat → Nat) {Z : (Nat → va_E) → Prop} {kn : Int} {n : Nat} {ic md : Nat → Int32} {bd : Nat → Int × Int} {E0 E : Nat → va_E} (hJ : JY l Z kn G ad n ic md bd PR E0 E) (x : Int32) : CtI l G yX9_isWall cX9_isWall 2 .boolean 4 85 (n) ad E [.ref (ad 68), .int x] (fun r E' => (r = 0 ∨ r = 1) ∧ JY l Z kn G ad n ic md bd PR E0 E') := by
  refine CtI.of (by decide) (Nat.le_of_ble_eq_true rfl) (fun X A C => ?_)
  refine v_sub (lv' := [(0, .ref (ad 68)), (1, .int x)]) [0, 1] rfl ?_
  have hn := hJ.hn
  have hz16 := hJ.1.2.2.2.2
  refine v_iload_n C 1 dX9_isWall_0 rfl rfl ?_
  refine b_if_lt C 20 dX9_isWall_1 (by decide) (rfl : Int32.toInt x = _) (fun c1 => ?_) (fun c1 => ?_)
  · refine v_iconst (v := 0) C dX9_isWall_20 (by decide) ?_
    exact v_ret C dX9_isWall_21 rfl rfl ⟨Or.inl rfl, hJ⟩
  · refine v_aload_n C 0 dX9_isWall_4 rfl rfl ?_
    refine v_iload_n C 1 dX9_isWall_5 rfl rfl ?_
    refine v_sipush (v := 1440) C dX9_isWall_6 (by decide) ?_
    refine v_idiv C dX9_isWall_9 (by decide) ?_
    have := ti_any x
    refine v_top (fun x2 ex2 => ?_)
    have hx2 : x2.toInt = (x.toInt / 1440) := by rw [ex2]; exact ti_div (rfl : Int32.toInt x = _) (show (1440 : Int32).toInt = 1440 by decide) (by omega) (by omega)
    obtain ⟨im7, hM7, hb7⟩ := hJ.1.1
    have hq7 := hM7.b
    refine v_cVi C dX9_isWall_10 lX9_141 mX9_isDay 68 (by omega) hM7.2.2.1 (by decide) rfl (d_isDay l G _ ad _ hn hM7 x2) ⟨by decide, by decide⟩ rfl (Nat.le_of_ble_eq_true rfl) ⟨Nat.zero_le _, Nat.zero_le _⟩ (fun r3 E4 hq5 => ?_)
    obtain ⟨hq5, hq5m⟩ := hq5
    have hJ6 := hJ.mr hb7 (by unfold PR; omega) (by unfold PR; omega) hq5m
    have hcyr3 := cal_y hM7.2.1
    rcases hq5 with ⟨rfl, hq5⟩ | ⟨rfl, hq5⟩
    · refine b_if_eq C 20 dX9_isWall_13 (by decide) (show (1 : Int32).toInt = 1 by decide) (fun c8 => absurd c8 (by decide)) (fun c8 => ?_)
      refine v_iconst (v := 1) C dX9_isWall_16 (by decide) ?_
      refine v_goto C 21 dX9_isWall_17 (by decide) ?_
      exact v_ret C dX9_isWall_21 rfl rfl ⟨Or.inr rfl, hJ6⟩
    · refine b_if_eq C 20 dX9_isWall_13 (by decide) (show (0 : Int32).toInt = 0 by decide) (fun c9 => ?_) (fun c9 => absurd c9 (by decide))
      refine v_iconst (v := 0) C dX9_isWall_20 (by decide) ?_
      exact v_ret C dX9_isWall_21 rfl rfl ⟨Or.inl rfl, hJ6⟩

set_option maxRecDepth 20000 in
theorem ty_X9_changes (l : Launch) (G : Gl) (ad : Nat → Nat) {Z : (Nat → va_E) → Prop} {kn : Int} {n : Nat} {ic md : Nat → Int32} {bd : Nat → Int × Int} {E0 E : Nat → va_E} (hJ : JY l Z kn G ad n ic md bd PR E0 E) (x : Int32) : CtI l G yX9_changes cX9_changes 2 .int 4 96 (n) ad E [.ref (ad 68), .int x] (fun r E' => ((-1 : Int) ≤ r.toInt ∧ r.toInt ≤ 800) ∧ JY l Z kn G ad n ic md bd PR E0 E') := by
  refine CtI.of (by decide) (Nat.le_of_ble_eq_true rfl) (fun X A C => ?_)
  refine v_sub (lv' := [(0, .ref (ad 68)), (1, .int x)]) [0, 1] rfl ?_
  have hn := hJ.hn
  have hz16 := hJ.1.2.2.2.2
  refine v_aload_n C 0 dX9_changes_0 rfl rfl ?_
  refine v_iload_n C 1 dX9_changes_1 rfl rfl ?_
  obtain ⟨im3, hM3, hb3⟩ := hJ.1.1
  have hq3 := hM3.b
  refine v_cVp C dX9_changes_2 lX9_162 mX9_isZone 68 (by omega) hM3.2.2.1 (by decide) rfl (ty_X9_isZone l G ad hJ x) ⟨by decide, by decide⟩ rfl (Nat.le_of_ble_eq_true rfl) ⟨Nat.zero_le _, Nat.zero_le _⟩ (fun r1 hp2 => ?_)
  rcases hp2 with ⟨rfl, hp2⟩ | ⟨rfl, hp2⟩
  · refine b_if_ne C 10 dX9_changes_5 (by decide) (show (1 : Int32).toInt = 1 by decide) (fun c4 => ?_) (fun c4 => absurd c4 (by decide))
    refine v_aload_n C 0 dX9_changes_10 rfl rfl ?_
    refine v_iload_n C 1 dX9_changes_11 rfl rfl ?_
    refine v_cVv C dX9_changes_12 lX9_171 mX9_find 68 (by omega) hM3.2.2.1 (by decide) rfl (ty_X9_find l G ad hJ x (show (0 : Int) ≤ Int32.toInt x ∧ Int32.toInt x ≤ 4 by omega)) ⟨by decide, by decide⟩ rfl (Nat.le_of_ble_eq_true rfl) ⟨Nat.zero_le _, Nat.zero_le _⟩ (fun E6 hJ8 => ?_)
    refine v_aload_n C 0 dX9_changes_15 rfl rfl ?_
    obtain ⟨im9, hM9, hb9⟩ := hJ8.1.1
    have hq9 := hM9.b
    refine v_getr C 68 dX9_changes_16 fX9_67 (by omega) hM9.2.2.1 rfl rfl ?_
    refine v_iload_n C 1 dX9_changes_19 rfl rfl ?_
    obtain ⟨f11, hE11, hb11⟩ := hJ8.1.2.1.getA (b := 82) (by omega) rfl
    refine v_ald (v := f11 (x.toInt).toNat) C 82 dX9_changes_20 (by omega) hE11 (ti_in (rfl : Int32.toInt x = _) (by omega) (by omega)) (by rw [ti_cl (rfl : Int32.toInt x = _)]) ?_
    refine v_top (fun x12 ex12 => ?_)
    have hx12 : (0 : Int) ≤ x12.toInt ∧ x12.toInt ≤ 800 := by rw [ex12]; exact hb11 _
    exact v_ret C dX9_changes_21 rfl rfl ⟨(show (-1 : Int) ≤ Int32.toInt x12 ∧ Int32.toInt x12 ≤ 800 by omega), hJ8⟩
  · refine b_if_ne C 10 dX9_changes_5 (by decide) (show (0 : Int32).toInt = 0 by decide) (fun c13 => absurd c13 (by decide)) (fun c13 => ?_)
    refine v_iconst (v := (-1)) C dX9_changes_8 (by decide) ?_
    exact v_ret C dX9_changes_9 rfl rfl ⟨(show (-1 : Int) ≤ Int32.toInt (-1) ∧ Int32.toInt (-1) ≤ 800 by decide), hJ⟩

set_option maxRecDepth 20000 in
theorem ty_X9_change (l : Launch) (G : Gl) (ad : Nat → Nat) {Z : (Nat → va_E) → Prop} {kn : Int} {n : Nat} {ic md : Nat → Int32} {bd : Nat → Int × Int} {E0 E : Nat → va_E} (hJ : JY l Z kn G ad n ic md bd PR E0 E) (x : Int32) (y : Int32) : CtI l G yX9_change cX9_change 3 .int 5 117 (n) ad E [.ref (ad 68), .int x, .int y] (fun r E' => ((-2147483648 : Int) ≤ r.toInt ∧ r.toInt ≤ 2147483647) ∧ JY l Z kn G ad n ic md bd PR E0 E') := by
  refine CtI.of (by decide) (Nat.le_of_ble_eq_true rfl) (fun X A C => ?_)
  refine v_sub (lv' := [(0, .ref (ad 68)), (1, .int x), (2, .int y)]) [0, 1, 2] rfl ?_
  have hn := hJ.hn
  have hz16 := hJ.1.2.2.2.2
  refine v_aload_n C 0 dX9_change_0 rfl rfl ?_
  refine v_iload_n C 1 dX9_change_1 rfl rfl ?_
  obtain ⟨im3, hM3, hb3⟩ := hJ.1.1
  have hq3 := hM3.b
  refine v_cVp C dX9_change_2 lX9_162 mX9_isZone 68 (by omega) hM3.2.2.1 (by decide) rfl (ty_X9_isZone l G ad hJ x) ⟨by decide, by decide⟩ rfl (Nat.le_of_ble_eq_true rfl) ⟨Nat.zero_le _, Nat.zero_le _⟩ (fun r1 hp2 => ?_)
  rcases hp2 with ⟨rfl, hp2⟩ | ⟨rfl, hp2⟩
  · refine b_if_eq C 38 dX9_change_5 (by decide) (show (1 : Int32).toInt = 1 by decide) (fun c4 => absurd c4 (by decide)) (fun c4 => ?_)
    refine v_iload_n C 2 dX9_change_8 rfl rfl ?_
    refine b_if_lt C 38 dX9_change_9 (by decide) (rfl : Int32.toInt y = _) (fun c5 => ?_) (fun c5 => ?_)
    · refine v_iconst (v := (-1)) C dX9_change_38 (by decide) ?_
      exact v_ret C dX9_change_39 rfl rfl ⟨(ti_any (-1)), hJ⟩
    · refine v_iload_n C 2 dX9_change_12 rfl rfl ?_
      refine v_aload_n C 0 dX9_change_13 rfl rfl ?_
      refine v_iload_n C 1 dX9_change_14 rfl rfl ?_
      refine v_cVi C dX9_change_15 lX9_175 mX9_changes 68 (by omega) hM3.2.2.1 (by decide) rfl (ty_X9_changes l G ad hJ x) ⟨by decide, by decide⟩ rfl (Nat.le_of_ble_eq_true rfl) ⟨Nat.zero_le _, Nat.zero_le _⟩ (fun r6 E7 hp8 => ?_)
      obtain ⟨hp8, hJ9⟩ := hp8
      refine b_icmp_ge C 38 dX9_change_18 (by decide) (rfl : Int32.toInt y = _) (rfl : Int32.toInt r6 = _) (fun c10 => ?_) (fun c10 => ?_)
      · refine v_iconst (v := (-1)) C dX9_change_38 (by decide) ?_
        exact v_ret C dX9_change_39 rfl rfl ⟨(ti_any (-1)), hJ9⟩
      · refine v_aload_n C 0 dX9_change_21 rfl rfl ?_
        obtain ⟨im11, hM11, hb11⟩ := hJ9.1.1
        have hq11 := hM11.b
        refine v_getr C 68 dX9_change_22 fX9_61 (by omega) hM11.2.2.1 rfl rfl ?_
        refine v_sipush (v := 801) C dX9_change_25 (by decide) ?_
        refine v_iload_n C 1 dX9_change_28 rfl rfl ?_
        refine v_imul C dX9_change_29 ?_
        refine v_top (fun x12 ex12 => ?_)
        have hx12 : x12.toInt = (801 * x.toInt) := by rw [ex12]; exact ti_mul (show (801 : Int32).toInt = 801 by decide) (rfl : Int32.toInt x = _) (by omega) (by omega)
        refine v_iconst (v := 1) C dX9_change_30 (by decide) ?_
        refine v_iadd C dX9_change_31 ?_
        refine v_top (fun x13 ex13 => ?_)
        have hx13 : x13.toInt = ((801 * x.toInt) + 1) := by rw [ex13]; exact ti_add hx12 (show (1 : Int32).toInt = 1 by decide) (by omega) (by omega)
        refine v_iload_n C 2 dX9_change_32 rfl rfl ?_
        refine v_iadd C dX9_change_33 ?_
        refine v_top (fun x14 ex14 => ?_)
        have hx14 : x14.toInt = (((801 * x.toInt) + 1) + y.toInt) := by rw [ex14]; exact ti_add hx13 (rfl : Int32.toInt y = _) (by omega) (by omega)
        obtain ⟨f16, hE16, hb16⟩ := hJ9.1.2.1.getA (b := 80) (by omega) rfl
        refine v_ald (v := f16 ((((801 * x.toInt) + 1) + y.toInt)).toNat) C 80 dX9_change_34 (by omega) hE16 (ti_in hx14 (by omega) (by omega)) (by rw [ti_cl hx14]) ?_
        refine v_top (fun x17 _ => ?_)
        refine v_goto C 39 dX9_change_35 (by decide) ?_
        exact v_ret C dX9_change_39 rfl rfl ⟨(ti_any x17), hJ9⟩
  · refine b_if_eq C 38 dX9_change_5 (by decide) (show (0 : Int32).toInt = 0 by decide) (fun c18 => ?_) (fun c18 => absurd c18 (by decide))
    refine v_iconst (v := (-1)) C dX9_change_38 (by decide) ?_
    exact v_ret C dX9_change_39 rfl rfl ⟨(ti_any (-1)), hJ⟩

set_option maxRecDepth 20000 in
theorem ty_X9_offsetAt (l : Launch) (G : Gl) (ad : Nat → Nat) {Z : (Nat → va_E) → Prop} {kn : Int} {n : Nat} {ic md : Nat → Int32} {bd : Nat → Int × Int} {E0 E : Nat → va_E} (hJ : JY l Z kn G ad n ic md bd PR E0 E) (x : Int32) (hx : (0 : Int) ≤ x.toInt ∧ x.toInt ≤ 4) (y : Int32) : CtI l G yX9_offsetAt cX9_offsetAt 6 .int 4 96 (n) ad E [.ref (ad 68), .int x, .int y] (fun r E' => ((-2147483648 : Int) ≤ r.toInt ∧ r.toInt ≤ 2147483647) ∧ JY l Z kn G ad n ic md bd PR E0 E') := by
  refine CtI.of (by decide) (Nat.le_of_ble_eq_true rfl) (fun X A C => ?_)
  refine v_sub (lv' := [(0, .ref (ad 68)), (1, .int x), (2, .int y)]) [0, 1, 2] rfl ?_
  have hn := hJ.hn
  have hz16 := hJ.1.2.2.2.2
  refine v_aload_n C 0 dX9_offsetAt_0 rfl rfl ?_
  refine v_iload_n C 1 dX9_offsetAt_1 rfl rfl ?_
  obtain ⟨im5, hM5, hb5⟩ := hJ.1.1
  have hq5 := hM5.b
  refine v_cVv C dX9_offsetAt_2 lX9_171 mX9_find 68 (by omega) hM5.2.2.1 (by decide) rfl (ty_X9_find l G ad hJ x (show (0 : Int) ≤ Int32.toInt x ∧ Int32.toInt x ≤ 4 by omega)) ⟨by decide, by decide⟩ rfl (Nat.le_of_ble_eq_true rfl) ⟨Nat.zero_le _, Nat.zero_le _⟩ (fun E2 hJ4 => ?_)
  refine v_iconst (v := 0) C dX9_offsetAt_5 (by decide) ?_
  refine v_istore_n (lv' := [(0, .ref (ad 68)), (1, .int x), (2, .int y), (3, .int 0)]) C [1, 2, 3, 0] dX9_offsetAt_6 rfl (by decide) rfl ?_
  refine v_aload_n C 0 dX9_offsetAt_7 rfl rfl ?_
  obtain ⟨im6, hM6, hb6⟩ := hJ4.1.1
  have hq6 := hM6.b
  refine v_getr C 68 dX9_offsetAt_8 fX9_67 (by omega) hM6.2.2.1 rfl rfl ?_
  refine v_iload_n C 1 dX9_offsetAt_11 rfl rfl ?_
  obtain ⟨f8, hE8, hb8⟩ := hJ4.1.2.1.getA (b := 82) (by omega) rfl
  refine v_ald (v := f8 (x.toInt).toNat) C 82 dX9_offsetAt_12 (by omega) hE8 (ti_in (rfl : Int32.toInt x = _) (by omega) (by omega)) (by rw [ti_cl (rfl : Int32.toInt x = _)]) ?_
  refine v_top (fun x9 ex9 => ?_)
  have hx9 : (0 : Int) ≤ x9.toInt ∧ x9.toInt ≤ 800 := by rw [ex9]; exact hb8 _
  refine v_istore (lv' := [(0, .ref (ad 68)), (1, .int x), (2, .int y), (3, .int 0), (4, .int x9)]) C [1, 2, 3, 4, 0] dX9_offsetAt_13 (by decide) rfl ?_
  have LP10 : ∀ (t : Nat) (E14 : Nat → va_E) (y11 : Int32) (y12 : Int32), JY l Z kn G ad n ic md bd PR E0 E14 → ((0 : Int) ≤ y11.toInt ∧ y11.toInt ≤ 800) → ((0 : Int) ≤ y12.toInt ∧ y12.toInt ≤ 800) → (y11.toInt ≤ y12.toInt) → y12.toInt - y11.toInt < (t : Int) → V X G A 6 (QI X G A (n) ad (fun r E' => ((-2147483648 : Int) ≤ r.toInt ∧ r.toInt ≤ 2147483647) ∧ JY l Z kn G ad n ic md bd PR E0 E')) n ad 0 0 E14 15 [(0, .ref (ad 68)), (1, .int x), (2, .int y), (3, .int y11), (4, .int y12)] [] := by
    intro t18
    induction t18 with
    | zero => intro E14 y11 y12 hJ15 hy11 hy12 hq13 hm17; exfalso; omega
    | succ t18 ih16 =>
      intro E14 y11 y12 hJ15 hy11 hy12 hq13 hm17
      refine v_iload_n C 3 dX9_offsetAt_15 rfl rfl ?_
      refine v_iload C 4 dX9_offsetAt_16 rfl ?_
      refine b_icmp_ge C 63 dX9_offsetAt_18 (by decide) (rfl : Int32.toInt y11 = _) (rfl : Int32.toInt y12 = _) (fun c19 => ?_) (fun c19 => ?_)
      · refine v_aload_n C 0 dX9_offsetAt_63 rfl rfl ?_
        obtain ⟨im20, hM20, hb20⟩ := hJ15.1.1
        have hq20 := hM20.b
        refine v_getr C 68 dX9_offsetAt_64 fX9_64 (by omega) hM20.2.2.1 rfl rfl ?_
        refine v_sipush (v := 801) C dX9_offsetAt_67 (by decide) ?_
        refine v_iload_n C 1 dX9_offsetAt_70 rfl rfl ?_
        refine v_imul C dX9_offsetAt_71 ?_
        refine v_top (fun x21 ex21 => ?_)
        have hx21 : x21.toInt = (801 * x.toInt) := by rw [ex21]; exact ti_mul (show (801 : Int32).toInt = 801 by decide) (rfl : Int32.toInt x = _) (by omega) (by omega)
        refine v_iload_n C 3 dX9_offsetAt_72 rfl rfl ?_
        refine v_iadd C dX9_offsetAt_73 ?_
        refine v_top (fun x22 ex22 => ?_)
        have hx22 : x22.toInt = ((801 * x.toInt) + y11.toInt) := by rw [ex22]; exact ti_add hx21 (rfl : Int32.toInt y11 = _) (by omega) (by omega)
        obtain ⟨f24, hE24, hb24⟩ := hJ15.1.2.1.getA (b := 81) (by omega) rfl
        refine v_ald (v := f24 (((801 * x.toInt) + y11.toInt)).toNat) C 81 dX9_offsetAt_74 (by omega) hE24 (ti_in hx22 (by omega) (by omega)) (by rw [ti_cl hx22]) ?_
        refine v_top (fun x25 _ => ?_)
        exact v_ret C dX9_offsetAt_75 rfl rfl ⟨(ti_any x25), hJ15⟩
      · refine v_iload_n C 3 dX9_offsetAt_21 rfl rfl ?_
        refine v_iload C 4 dX9_offsetAt_22 rfl ?_
        refine v_iadd C dX9_offsetAt_24 ?_
        refine v_top (fun x26 ex26 => ?_)
        have hx26 : x26.toInt = (y11.toInt + y12.toInt) := by rw [ex26]; exact ti_add (rfl : Int32.toInt y11 = _) (rfl : Int32.toInt y12 = _) (by omega) (by omega)
        refine v_iconst (v := 1) C dX9_offsetAt_25 (by decide) ?_
        refine v_iadd C dX9_offsetAt_26 ?_
        refine v_top (fun x27 ex27 => ?_)
        have hx27 : x27.toInt = ((y11.toInt + y12.toInt) + 1) := by rw [ex27]; exact ti_add hx26 (show (1 : Int32).toInt = 1 by decide) (by omega) (by omega)
        refine v_iconst (v := 2) C dX9_offsetAt_27 (by decide) ?_
        refine v_idiv C dX9_offsetAt_28 (by decide) ?_
        refine v_top (fun x28 ex28 => ?_)
        have hx28 : x28.toInt = (((y11.toInt + y12.toInt) + 1) / 2) := by rw [ex28]; exact ti_div hx27 (show (2 : Int32).toInt = 2 by decide) (by omega) (by omega)
        refine v_istore (lv' := [(0, .ref (ad 68)), (1, .int x), (2, .int y), (3, .int y11), (4, .int y12), (5, .int x28)]) C [1, 2, 3, 4, 5, 0] dX9_offsetAt_29 (by decide) rfl ?_
        refine v_aload_n C 0 dX9_offsetAt_31 rfl rfl ?_
        obtain ⟨im29, hM29, hb29⟩ := hJ15.1.1
        have hq29 := hM29.b
        refine v_getr C 68 dX9_offsetAt_32 fX9_61 (by omega) hM29.2.2.1 rfl rfl ?_
        refine v_sipush (v := 801) C dX9_offsetAt_35 (by decide) ?_
        refine v_iload_n C 1 dX9_offsetAt_38 rfl rfl ?_
        refine v_imul C dX9_offsetAt_39 ?_
        refine v_top (fun x30 ex30 => ?_)
        have hx30 : x30.toInt = (801 * x.toInt) := by rw [ex30]; exact ti_mul (show (801 : Int32).toInt = 801 by decide) (rfl : Int32.toInt x = _) (by omega) (by omega)
        refine v_iload C 5 dX9_offsetAt_40 rfl ?_
        refine v_iadd C dX9_offsetAt_42 ?_
        refine v_top (fun x31 ex31 => ?_)
        have hx31 : x31.toInt = ((801 * x.toInt) + (((y11.toInt + y12.toInt) + 1) / 2)) := by rw [ex31]; exact ti_add hx30 hx28 (by omega) (by omega)
        obtain ⟨f33, hE33, hb33⟩ := hJ15.1.2.1.getA (b := 80) (by omega) rfl
        refine v_ald (v := f33 (((801 * x.toInt) + (((y11.toInt + y12.toInt) + 1) / 2))).toNat) C 80 dX9_offsetAt_43 (by omega) hE33 (ti_in hx31 (by omega) (by omega)) (by rw [ti_cl hx31]) ?_
        refine v_top (fun x34 _ => ?_)
        refine v_iload_n C 2 dX9_offsetAt_44 rfl rfl ?_
        refine b_icmp_gt C 54 dX9_offsetAt_45 (by decide) (rfl : Int32.toInt x34 = _) (rfl : Int32.toInt y = _) (fun c35 => ?_) (fun c35 => ?_)
        · refine v_iload C 5 dX9_offsetAt_54 rfl ?_
          refine v_iconst (v := 1) C dX9_offsetAt_56 (by decide) ?_
          refine v_isub C dX9_offsetAt_57 ?_
          refine v_top (fun x36 ex36 => ?_)
          have hx36 : x36.toInt = ((((y11.toInt + y12.toInt) + 1) / 2) - 1) := by rw [ex36]; exact ti_sub hx28 (show (1 : Int32).toInt = 1 by decide) (by omega) (by omega)
          refine v_istore (lv' := [(0, .ref (ad 68)), (1, .int x), (2, .int y), (3, .int y11), (4, .int x36), (5, .int x28)]) C [1, 2, 3, 4, 0, 5] dX9_offsetAt_58 (by decide) rfl ?_
          refine v_goto C 15 dX9_offsetAt_60 (by decide) ?_
          refine v_sub (lv' := [(0, .ref (ad 68)), (1, .int x), (2, .int y), (3, .int y11), (4, .int x36)]) [0, 1, 2, 3, 4] rfl ?_
          exact ih16 _ y11 x36 hJ15 (by have := hx36; omega) (by have := hx36; omega) (by have := hx36; omega) (by have := hx36; omega)
        · refine v_iload C 5 dX9_offsetAt_48 rfl ?_
          refine v_istore_n (lv' := [(0, .ref (ad 68)), (1, .int x), (2, .int y), (3, .int x28), (4, .int y12), (5, .int x28)]) C [1, 2, 3, 0, 4, 5] dX9_offsetAt_50 rfl (by decide) rfl ?_
          refine v_goto C 60 dX9_offsetAt_51 (by decide) ?_
          refine v_goto C 15 dX9_offsetAt_60 (by decide) ?_
          refine v_sub (lv' := [(0, .ref (ad 68)), (1, .int x), (2, .int y), (3, .int x28), (4, .int y12)]) [0, 1, 2, 3, 4] rfl ?_
          exact ih16 _ x28 y12 hJ15 (by have := hx28; omega) (by have := hx28; omega) (by have := hx28; omega) (by have := hx28; omega)
  exact LP10 100000 _ 0 x9 hJ4 (by have := (show (0 : Int32).toInt = 0 by decide); omega) (by have := (show (0 : Int32).toInt = 0 by decide); omega) (by have := (show (0 : Int32).toInt = 0 by decide); omega) (by have := (show (0 : Int32).toInt = 0 by decide); omega)

set_option maxRecDepth 20000 in
theorem ty_X9_offset (l : Launch) (G : Gl) (ad : Nat → Nat) {Z : (Nat → va_E) → Prop} {kn : Int} {n : Nat} {ic md : Nat → Int32} {bd : Nat → Int × Int} {E0 E : Nat → va_E} (hJ : JY l Z kn G ad n ic md bd PR E0 E) (x : Int32) (y : Int32) : CtI l G yX9_offset cX9_offset 3 .int 5 121 (n) ad E [.ref (ad 68), .int x, .int y] (fun r E' => ((-2147483648 : Int) ≤ r.toInt ∧ r.toInt ≤ 2147483647) ∧ JY l Z kn G ad n ic md bd PR E0 E') := by
  refine CtI.of (by decide) (Nat.le_of_ble_eq_true rfl) (fun X A C => ?_)
  refine v_sub (lv' := [(0, .ref (ad 68)), (1, .int x), (2, .int y)]) [0, 1, 2] rfl ?_
  have hn := hJ.hn
  have hz16 := hJ.1.2.2.2.2
  refine v_aload_n C 0 dX9_offset_0 rfl rfl ?_
  refine v_iload_n C 1 dX9_offset_1 rfl rfl ?_
  obtain ⟨im3, hM3, hb3⟩ := hJ.1.1
  have hq3 := hM3.b
  refine v_cVp C dX9_offset_2 lX9_162 mX9_isZone 68 (by omega) hM3.2.2.1 (by decide) rfl (ty_X9_isZone l G ad hJ x) ⟨by decide, by decide⟩ rfl (Nat.le_of_ble_eq_true rfl) ⟨Nat.zero_le _, Nat.zero_le _⟩ (fun r1 hp2 => ?_)
  rcases hp2 with ⟨rfl, hp2⟩ | ⟨rfl, hp2⟩
  · refine b_if_eq C 24 dX9_offset_5 (by decide) (show (1 : Int32).toInt = 1 by decide) (fun c4 => absurd c4 (by decide)) (fun c4 => ?_)
    refine v_iload_n C 2 dX9_offset_8 rfl rfl ?_
    refine v_cSp C dX9_offset_9 lX9_179 mX9_isMoment (ty_X9_isMoment l G ad hJ y) ⟨by decide, by decide⟩ rfl (Nat.le_of_ble_eq_true rfl) ⟨Nat.zero_le _, Nat.zero_le _⟩ (fun r5 hp6 => ?_)
    rcases hp6 with ⟨rfl, hp6⟩ | ⟨rfl, hp6⟩
    · refine b_if_eq C 24 dX9_offset_12 (by decide) (show (1 : Int32).toInt = 1 by decide) (fun c7 => absurd c7 (by decide)) (fun c7 => ?_)
      refine v_aload_n C 0 dX9_offset_15 rfl rfl ?_
      refine v_iload_n C 1 dX9_offset_16 rfl rfl ?_
      refine v_iload_n C 2 dX9_offset_17 rfl rfl ?_
      refine v_cVi C dX9_offset_18 lX9_182 mX9_offsetAt 68 (by omega) hM3.2.2.1 (by decide) rfl (ty_X9_offsetAt l G ad hJ x (show (0 : Int) ≤ Int32.toInt x ∧ Int32.toInt x ≤ 4 by omega) y) ⟨by decide, by decide⟩ rfl (Nat.le_of_ble_eq_true rfl) ⟨Nat.zero_le _, Nat.zero_le _⟩ (fun r8 E9 hp10 => ?_)
      obtain ⟨hp10, hJ11⟩ := hp10
      refine v_goto C 27 dX9_offset_21 (by decide) ?_
      exact v_ret C dX9_offset_27 rfl rfl ⟨(ti_any r8), hJ11⟩
    · refine b_if_eq C 24 dX9_offset_12 (by decide) (show (0 : Int32).toInt = 0 by decide) (fun c12 => ?_) (fun c12 => absurd c12 (by decide))
      refine v_sipush (v := (-9999)) C dX9_offset_24 (by decide) ?_
      exact v_ret C dX9_offset_27 rfl rfl ⟨(ti_any (-9999)), hJ⟩
  · refine b_if_eq C 24 dX9_offset_5 (by decide) (show (0 : Int32).toInt = 0 by decide) (fun c13 => ?_) (fun c13 => absurd c13 (by decide))
    refine v_sipush (v := (-9999)) C dX9_offset_24 (by decide) ?_
    exact v_ret C dX9_offset_27 rfl rfl ⟨(ti_any (-9999)), hJ⟩

set_option maxRecDepth 20000 in
theorem ty_X9_wall (l : Launch) (G : Gl) (ad : Nat → Nat) {Z : (Nat → va_E) → Prop} {kn : Int} {n : Nat} {ic md : Nat → Int32} {bd : Nat → Int × Int} {E0 E : Nat → va_E} (hJ : JY l Z kn G ad n ic md bd PR E0 E) (x : Int32) (y : Int32) : CtI l G yX9_wall cX9_wall 4 .int 5 121 (n) ad E [.ref (ad 68), .int x, .int y] (fun r E' => ((-2147483648 : Int) ≤ r.toInt ∧ r.toInt ≤ 2147483647) ∧ JY l Z kn G ad n ic md bd PR E0 E') := by
  refine CtI.of (by decide) (Nat.le_of_ble_eq_true rfl) (fun X A C => ?_)
  refine v_sub (lv' := [(0, .ref (ad 68)), (1, .int x), (2, .int y)]) [0, 1, 2] rfl ?_
  have hn := hJ.hn
  have hz16 := hJ.1.2.2.2.2
  refine v_aload_n C 0 dX9_wall_0 rfl rfl ?_
  refine v_iload_n C 1 dX9_wall_1 rfl rfl ?_
  obtain ⟨im3, hM3, hb3⟩ := hJ.1.1
  have hq3 := hM3.b
  refine v_cVp C dX9_wall_2 lX9_162 mX9_isZone 68 (by omega) hM3.2.2.1 (by decide) rfl (ty_X9_isZone l G ad hJ x) ⟨by decide, by decide⟩ rfl (Nat.le_of_ble_eq_true rfl) ⟨Nat.zero_le _, Nat.zero_le _⟩ (fun r1 hp2 => ?_)
  rcases hp2 with ⟨rfl, hp2⟩ | ⟨rfl, hp2⟩
  · refine b_if_eq C 15 dX9_wall_5 (by decide) (show (1 : Int32).toInt = 1 by decide) (fun c4 => absurd c4 (by decide)) (fun c4 => ?_)
    refine v_iload_n C 2 dX9_wall_8 rfl rfl ?_
    refine v_cSp C dX9_wall_9 lX9_179 mX9_isMoment (ty_X9_isMoment l G ad hJ y) ⟨by decide, by decide⟩ rfl (Nat.le_of_ble_eq_true rfl) ⟨Nat.zero_le _, Nat.zero_le _⟩ (fun r5 hp6 => ?_)
    rcases hp6 with ⟨rfl, hp6⟩ | ⟨rfl, hp6⟩
    · refine b_if_ne C 17 dX9_wall_12 (by decide) (show (1 : Int32).toInt = 1 by decide) (fun c7 => ?_) (fun c7 => absurd c7 (by decide))
      refine v_iload_n C 2 dX9_wall_17 rfl rfl ?_
      refine v_aload_n C 0 dX9_wall_18 rfl rfl ?_
      refine v_iload_n C 1 dX9_wall_19 rfl rfl ?_
      refine v_iload_n C 2 dX9_wall_20 rfl rfl ?_
      refine v_cVi C dX9_wall_21 lX9_182 mX9_offsetAt 68 (by omega) hM3.2.2.1 (by decide) rfl (ty_X9_offsetAt l G ad hJ x (show (0 : Int) ≤ Int32.toInt x ∧ Int32.toInt x ≤ 4 by omega) y) ⟨by decide, by decide⟩ rfl (Nat.le_of_ble_eq_true rfl) ⟨Nat.zero_le _, Nat.zero_le _⟩ (fun r8 E9 hp10 => ?_)
      obtain ⟨hp10, hJ11⟩ := hp10
      refine v_iadd C dX9_wall_24 ?_
      refine v_top (fun x12 _ => ?_)
      refine v_istore_n (lv' := [(0, .ref (ad 68)), (1, .int x), (2, .int y), (3, .int x12)]) C [1, 2, 3, 0] dX9_wall_25 rfl (by decide) rfl ?_
      refine v_aload_n C 0 dX9_wall_26 rfl rfl ?_
      refine v_iload_n C 3 dX9_wall_27 rfl rfl ?_
      obtain ⟨im17, hM17, hb17⟩ := hJ11.1.1
      have hq17 := hM17.b
      refine v_cVi C dX9_wall_28 lX9_185 mX9_isWall 68 (by omega) hM17.2.2.1 (by decide) rfl (ty_X9_isWall l G ad hJ11 x12) ⟨by decide, by decide⟩ rfl (Nat.le_of_ble_eq_true rfl) ⟨Nat.zero_le _, Nat.zero_le _⟩ (fun r13 E14 hp15 => ?_)
      obtain ⟨hp15, hJ16⟩ := hp15
      rcases hp15 with rfl | rfl
      · refine b_if_eq C 38 dX9_wall_31 (by decide) (show (0 : Int32).toInt = 0 by decide) (fun c18 => ?_) (fun c18 => absurd c18 (by decide))
        refine v_bipush (v := (-6)) C dX9_wall_38 (by decide) ?_
        exact v_ret C dX9_wall_40 rfl rfl ⟨(ti_any (-6)), hJ16⟩
      · refine b_if_eq C 38 dX9_wall_31 (by decide) (show (1 : Int32).toInt = 1 by decide) (fun c19 => absurd c19 (by decide)) (fun c19 => ?_)
        refine v_iload_n C 3 dX9_wall_34 rfl rfl ?_
        refine v_goto C 40 dX9_wall_35 (by decide) ?_
        exact v_ret C dX9_wall_40 rfl rfl ⟨(ti_any x12), hJ16⟩
    · refine b_if_ne C 17 dX9_wall_12 (by decide) (show (0 : Int32).toInt = 0 by decide) (fun c20 => absurd c20 (by decide)) (fun c20 => ?_)
      refine v_iconst (v := (-1)) C dX9_wall_15 (by decide) ?_
      exact v_ret C dX9_wall_16 rfl rfl ⟨(ti_any (-1)), hJ⟩
  · refine b_if_eq C 15 dX9_wall_5 (by decide) (show (0 : Int32).toInt = 0 by decide) (fun c21 => ?_) (fun c21 => absurd c21 (by decide))
    refine v_iconst (v := (-1)) C dX9_wall_15 (by decide) ?_
    exact v_ret C dX9_wall_16 rfl rfl ⟨(ti_any (-1)), hJ⟩

set_option maxRecDepth 20000 in
theorem ty_X9_momentOf (l : Launch) (G : Gl) (ad : Nat → Nat) {Z : (Nat → va_E) → Prop} {kn : Int} {n : Nat} {ic md : Nat → Int32} {bd : Nat → Int × Int} {E0 E : Nat → va_E} (hJ : JY l Z kn G ad n ic md bd PR E0 E) (x : Int32) (hx : (0 : Int) ≤ x.toInt ∧ x.toInt ≤ 4) (y : Int32) (z : Int32) : CtI l G yX9_momentOf cX9_momentOf 7 .int 4 96 (n) ad E [.ref (ad 68), .int x, .int y, .int z] (fun r E' => ((-2147483648 : Int) ≤ r.toInt ∧ r.toInt ≤ 2147483647) ∧ JY l Z kn G ad n ic md bd PR E0 E') := by
  refine CtI.of (by decide) (Nat.le_of_ble_eq_true rfl) (fun X A C => ?_)
  refine v_sub (lv' := [(0, .ref (ad 68)), (1, .int x), (2, .int y), (3, .int z)]) [0, 1, 2, 3] rfl ?_
  have hn := hJ.hn
  have hz16 := hJ.1.2.2.2.2
  refine v_aload_n C 0 dX9_momentOf_0 rfl rfl ?_
  refine v_iload_n C 1 dX9_momentOf_1 rfl rfl ?_
  obtain ⟨im5, hM5, hb5⟩ := hJ.1.1
  have hq5 := hM5.b
  refine v_cVv C dX9_momentOf_2 lX9_171 mX9_find 68 (by omega) hM5.2.2.1 (by decide) rfl (ty_X9_find l G ad hJ x (show (0 : Int) ≤ Int32.toInt x ∧ Int32.toInt x ≤ 4 by omega)) ⟨by decide, by decide⟩ rfl (Nat.le_of_ble_eq_true rfl) ⟨Nat.zero_le _, Nat.zero_le _⟩ (fun E2 hJ4 => ?_)
  refine v_iconst (v := 0) C dX9_momentOf_5 (by decide) ?_
  refine v_istore (lv' := [(0, .ref (ad 68)), (1, .int x), (2, .int y), (3, .int z), (4, .int 0)]) C [1, 2, 3, 4, 0] dX9_momentOf_6 (by decide) rfl ?_
  refine v_iconst (v := 0) C dX9_momentOf_8 (by decide) ?_
  refine v_istore (lv' := [(0, .ref (ad 68)), (1, .int x), (2, .int y), (3, .int z), (4, .int 0), (5, .int 0)]) C [1, 2, 3, 4, 5, 0] dX9_momentOf_9 (by decide) rfl ?_
  have LP6 : ∀ (t : Nat) (E9 : Nat → va_E) (y7 : Int32) (y8 : Int32), JY l Z kn G ad n ic md bd PR E0 E9 → ((0 : Int) ≤ y8.toInt ∧ y8.toInt ≤ 801) → 802 - y8.toInt < (t : Int) → V X G A 7 (QI X G A (n) ad (fun r E' => ((-2147483648 : Int) ≤ r.toInt ∧ r.toInt ≤ 2147483647) ∧ JY l Z kn G ad n ic md bd PR E0 E')) n ad 0 0 E9 11 [(0, .ref (ad 68)), (1, .int x), (2, .int y), (3, .int z), (4, .int y7), (5, .int y8)] [] := by
    intro t13
    induction t13 with
    | zero => intro E9 y7 y8 hJ10 hy8 hm12; exfalso; omega
    | succ t13 ih11 =>
      intro E9 y7 y8 hJ10 hy8 hm12
      refine v_iload C 5 dX9_momentOf_11 rfl ?_
      refine v_aload_n C 0 dX9_momentOf_13 rfl rfl ?_
      obtain ⟨im14, hM14, hb14⟩ := hJ10.1.1
      have hq14 := hM14.b
      refine v_getr C 68 dX9_momentOf_14 fX9_67 (by omega) hM14.2.2.1 rfl rfl ?_
      refine v_iload_n C 1 dX9_momentOf_17 rfl rfl ?_
      obtain ⟨f16, hE16, hb16⟩ := hJ10.1.2.1.getA (b := 82) (by omega) rfl
      refine v_ald (v := f16 (x.toInt).toNat) C 82 dX9_momentOf_18 (by omega) hE16 (ti_in (rfl : Int32.toInt x = _) (by omega) (by omega)) (by rw [ti_cl (rfl : Int32.toInt x = _)]) ?_
      refine v_top (fun x17 ex17 => ?_)
      have hx17 : (0 : Int) ≤ x17.toInt ∧ x17.toInt ≤ 800 := by rw [ex17]; exact hb16 _
      refine b_icmp_gt C 87 dX9_momentOf_19 (by decide) (rfl : Int32.toInt y8 = _) (rfl : Int32.toInt x17 = _) (fun c18 => ?_) (fun c18 => ?_)
      · refine v_iload_n C 3 dX9_momentOf_87 rfl rfl ?_
        refine b_if_ge C 96 dX9_momentOf_88 (by decide) (rfl : Int32.toInt z = _) (fun c19 => ?_) (fun c19 => ?_)
        · refine v_iconst (v := (-1)) C dX9_momentOf_96 (by decide) ?_
          exact v_ret C dX9_momentOf_97 rfl rfl ⟨(ti_any (-1)), hJ10⟩
        · refine v_iload C 4 dX9_momentOf_91 rfl ?_
          refine v_goto C 97 dX9_momentOf_93 (by decide) ?_
          exact v_ret C dX9_momentOf_97 rfl rfl ⟨(ti_any y7), hJ10⟩
      · refine v_iload_n C 2 dX9_momentOf_22 rfl rfl ?_
        refine v_aload_n C 0 dX9_momentOf_23 rfl rfl ?_
        refine v_getr C 68 dX9_momentOf_24 fX9_64 (by omega) hM14.2.2.1 rfl rfl ?_
        refine v_sipush (v := 801) C dX9_momentOf_27 (by decide) ?_
        refine v_iload_n C 1 dX9_momentOf_30 rfl rfl ?_
        refine v_imul C dX9_momentOf_31 ?_
        refine v_top (fun x20 ex20 => ?_)
        have hx20 : x20.toInt = (801 * x.toInt) := by rw [ex20]; exact ti_mul (show (801 : Int32).toInt = 801 by decide) (rfl : Int32.toInt x = _) (by omega) (by omega)
        refine v_iload C 5 dX9_momentOf_32 rfl ?_
        refine v_iadd C dX9_momentOf_34 ?_
        refine v_top (fun x21 ex21 => ?_)
        have hx21 : x21.toInt = ((801 * x.toInt) + y8.toInt) := by rw [ex21]; exact ti_add hx20 (rfl : Int32.toInt y8 = _) (by omega) (by omega)
        obtain ⟨f23, hE23, hb23⟩ := hJ10.1.2.1.getA (b := 81) (by omega) rfl
        refine v_ald (v := f23 (((801 * x.toInt) + y8.toInt)).toNat) C 81 dX9_momentOf_35 (by omega) hE23 (ti_in hx21 (by omega) (by omega)) (by rw [ti_cl hx21]) ?_
        refine v_top (fun x24 _ => ?_)
        refine v_isub C dX9_momentOf_36 ?_
        refine v_top (fun x25 _ => ?_)
        refine v_istore (lv' := [(0, .ref (ad 68)), (1, .int x), (2, .int y), (3, .int z), (4, .int y7), (5, .int y8), (6, .int x25)]) C [1, 2, 3, 4, 5, 6, 0] dX9_momentOf_37 (by decide) rfl ?_
        refine v_iload C 6 dX9_momentOf_39 rfl ?_
        refine v_aload_n C 0 dX9_momentOf_41 rfl rfl ?_
        refine v_getr C 68 dX9_momentOf_42 fX9_61 (by omega) hM14.2.2.1 rfl rfl ?_
        refine v_sipush (v := 801) C dX9_momentOf_45 (by decide) ?_
        refine v_iload_n C 1 dX9_momentOf_48 rfl rfl ?_
        refine v_imul C dX9_momentOf_49 ?_
        refine v_top (fun x26 ex26 => ?_)
        have hx26 : x26.toInt = (801 * x.toInt) := by rw [ex26]; exact ti_mul (show (801 : Int32).toInt = 801 by decide) (rfl : Int32.toInt x = _) (by omega) (by omega)
        refine v_iload C 5 dX9_momentOf_50 rfl ?_
        refine v_iadd C dX9_momentOf_52 ?_
        refine v_top (fun x27 ex27 => ?_)
        have hx27 : x27.toInt = ((801 * x.toInt) + y8.toInt) := by rw [ex27]; exact ti_add hx26 (rfl : Int32.toInt y8 = _) (by omega) (by omega)
        obtain ⟨f29, hE29, hb29⟩ := hJ10.1.2.1.getA (b := 80) (by omega) rfl
        refine v_ald (v := f29 (((801 * x.toInt) + y8.toInt)).toNat) C 80 dX9_momentOf_53 (by omega) hE29 (ti_in hx27 (by omega) (by omega)) (by rw [ti_cl hx27]) ?_
        refine v_top (fun x30 _ => ?_)
        refine b_icmp_lt C 81 dX9_momentOf_54 (by decide) (rfl : Int32.toInt x25 = _) (rfl : Int32.toInt x30 = _) (fun c31 => ?_) (fun c31 => ?_)
        · obtain ⟨x32, ex32⟩ : ∃ y : Int32, y = y8 + 1 := ⟨_, rfl⟩
          have hx32 : x32.toInt = (y8.toInt + 1) := by rw [ex32]; exact ti_add (rfl : Int32.toInt y8 = _) (show (1 : Int32).toInt = 1 by decide) (by omega) (by omega)
          refine v_iinc (v := x32) (lv' := [(0, .ref (ad 68)), (1, .int x), (2, .int y), (3, .int z), (4, .int y7), (5, .int x32), (6, .int x25)]) C 5 [1, 2, 3, 4, 5, 0, 6] dX9_momentOf_81 rfl (ex32.symm) (by decide) rfl ?_
          refine v_goto C 11 dX9_momentOf_84 (by decide) ?_
          refine v_sub (lv' := [(0, .ref (ad 68)), (1, .int x), (2, .int y), (3, .int z), (4, .int y7), (5, .int x32)]) [0, 1, 2, 3, 4, 5] rfl ?_
          exact ih11 _ y7 x32 hJ10 (by have := ti_any y7; have := hx32; omega) (by have := ti_any y7; have := hx32; omega)
        · refine v_iload C 6 dX9_momentOf_57 rfl ?_
          refine v_aload_n C 0 dX9_momentOf_59 rfl rfl ?_
          refine v_iload_n C 1 dX9_momentOf_60 rfl rfl ?_
          refine v_iload C 5 dX9_momentOf_61 rfl ?_
          refine v_cVp C dX9_momentOf_63 lX9_188 mX9_spanEnd 68 (by omega) hM14.2.2.1 (by decide) rfl (ty_X9_spanEnd l G ad hJ10 x (show (0 : Int) ≤ Int32.toInt x ∧ Int32.toInt x ≤ 4 by omega) y8 (show (0 : Int) ≤ Int32.toInt y8 ∧ Int32.toInt y8 ≤ 800 by omega) (fun f hf => by rw [aI_inj (hf.symm.trans hE16), ← ex17]; omega)) ⟨by decide, by decide⟩ rfl (Nat.le_of_ble_eq_true rfl) ⟨Nat.zero_le _, Nat.zero_le _⟩ (fun r33 hp34 => ?_)
          refine b_icmp_gt C 81 dX9_momentOf_66 (by decide) (rfl : Int32.toInt x25 = _) (rfl : Int32.toInt r33 = _) (fun c35 => ?_) (fun c35 => ?_)
          · obtain ⟨x36, ex36⟩ : ∃ y : Int32, y = y8 + 1 := ⟨_, rfl⟩
            have hx36 : x36.toInt = (y8.toInt + 1) := by rw [ex36]; exact ti_add (rfl : Int32.toInt y8 = _) (show (1 : Int32).toInt = 1 by decide) (by omega) (by omega)
            refine v_iinc (v := x36) (lv' := [(0, .ref (ad 68)), (1, .int x), (2, .int y), (3, .int z), (4, .int y7), (5, .int x36), (6, .int x25)]) C 5 [1, 2, 3, 4, 5, 0, 6] dX9_momentOf_81 rfl (ex36.symm) (by decide) rfl ?_
            refine v_goto C 11 dX9_momentOf_84 (by decide) ?_
            refine v_sub (lv' := [(0, .ref (ad 68)), (1, .int x), (2, .int y), (3, .int z), (4, .int y7), (5, .int x36)]) [0, 1, 2, 3, 4, 5] rfl ?_
            exact ih11 _ y7 x36 hJ10 (by have := ti_any y7; have := hx36; omega) (by have := ti_any y7; have := hx36; omega)
          · refine v_iload C 4 dX9_momentOf_69 rfl ?_
            refine v_iload_n C 3 dX9_momentOf_71 rfl rfl ?_
            refine b_icmp_ne C 78 dX9_momentOf_72 (by decide) (rfl : Int32.toInt y7 = _) (rfl : Int32.toInt z = _) (fun c37 => ?_) (fun c37 => ?_)
            · obtain ⟨x38, ex38⟩ : ∃ y : Int32, y = y7 + 1 := ⟨_, rfl⟩
              refine v_iinc (v := x38) (lv' := [(0, .ref (ad 68)), (1, .int x), (2, .int y), (3, .int z), (4, .int x38), (5, .int y8), (6, .int x25)]) C 4 [1, 2, 3, 4, 0, 5, 6] dX9_momentOf_78 rfl (ex38.symm) (by decide) rfl ?_
              obtain ⟨x39, ex39⟩ : ∃ y : Int32, y = y8 + 1 := ⟨_, rfl⟩
              have hx39 : x39.toInt = (y8.toInt + 1) := by rw [ex39]; exact ti_add (rfl : Int32.toInt y8 = _) (show (1 : Int32).toInt = 1 by decide) (by omega) (by omega)
              refine v_iinc (v := x39) (lv' := [(0, .ref (ad 68)), (1, .int x), (2, .int y), (3, .int z), (4, .int x38), (5, .int x39), (6, .int x25)]) C 5 [1, 2, 3, 4, 5, 0, 6] dX9_momentOf_81 rfl (ex39.symm) (by decide) rfl ?_
              refine v_goto C 11 dX9_momentOf_84 (by decide) ?_
              refine v_sub (lv' := [(0, .ref (ad 68)), (1, .int x), (2, .int y), (3, .int z), (4, .int x38), (5, .int x39)]) [0, 1, 2, 3, 4, 5] rfl ?_
              exact ih11 _ x38 x39 hJ10 (by have := ti_any x38; have := hx39; omega) (by have := ti_any x38; have := hx39; omega)
            · refine v_iload C 6 dX9_momentOf_75 rfl ?_
              exact v_ret C dX9_momentOf_77 rfl rfl ⟨(ti_any x25), hJ10⟩
  exact LP6 100000 _ 0 0 hJ4 (by have := (show (0 : Int32).toInt = 0 by decide); omega) (by have := (show (0 : Int32).toInt = 0 by decide); omega)

set_option maxRecDepth 20000 in
theorem ty_X9_moments (l : Launch) (G : Gl) (ad : Nat → Nat) {Z : (Nat → va_E) → Prop} {kn : Int} {n : Nat} {ic md : Nat → Int32} {bd : Nat → Int × Int} {E0 E : Nat → va_E} (hJ : JY l Z kn G ad n ic md bd PR E0 E) (x : Int32) (y : Int32) : CtI l G yX9_moments cX9_moments 3 .int 5 122 (n) ad E [.ref (ad 68), .int x, .int y] (fun r E' => ((-2147483648 : Int) ≤ r.toInt ∧ r.toInt ≤ 2147483647) ∧ JY l Z kn G ad n ic md bd PR E0 E') := by
  refine CtI.of (by decide) (Nat.le_of_ble_eq_true rfl) (fun X A C => ?_)
  refine v_sub (lv' := [(0, .ref (ad 68)), (1, .int x), (2, .int y)]) [0, 1, 2] rfl ?_
  have hn := hJ.hn
  have hz16 := hJ.1.2.2.2.2
  refine v_aload_n C 0 dX9_moments_0 rfl rfl ?_
  refine v_iload_n C 1 dX9_moments_1 rfl rfl ?_
  obtain ⟨im3, hM3, hb3⟩ := hJ.1.1
  have hq3 := hM3.b
  refine v_cVp C dX9_moments_2 lX9_162 mX9_isZone 68 (by omega) hM3.2.2.1 (by decide) rfl (ty_X9_isZone l G ad hJ x) ⟨by decide, by decide⟩ rfl (Nat.le_of_ble_eq_true rfl) ⟨Nat.zero_le _, Nat.zero_le _⟩ (fun r1 hp2 => ?_)
  rcases hp2 with ⟨rfl, hp2⟩ | ⟨rfl, hp2⟩
  · refine b_if_eq C 26 dX9_moments_5 (by decide) (show (1 : Int32).toInt = 1 by decide) (fun c4 => absurd c4 (by decide)) (fun c4 => ?_)
    refine v_aload_n C 0 dX9_moments_8 rfl rfl ?_
    refine v_iload_n C 2 dX9_moments_9 rfl rfl ?_
    refine v_cVi C dX9_moments_10 lX9_185 mX9_isWall 68 (by omega) hM3.2.2.1 (by decide) rfl (ty_X9_isWall l G ad hJ y) ⟨by decide, by decide⟩ rfl (Nat.le_of_ble_eq_true rfl) ⟨Nat.zero_le _, Nat.zero_le _⟩ (fun r5 E6 hp7 => ?_)
    obtain ⟨hp7, hJ8⟩ := hp7
    rcases hp7 with rfl | rfl
    · refine b_if_eq C 26 dX9_moments_13 (by decide) (show (0 : Int32).toInt = 0 by decide) (fun c9 => ?_) (fun c9 => absurd c9 (by decide))
      refine v_iconst (v := (-1)) C dX9_moments_26 (by decide) ?_
      exact v_ret C dX9_moments_27 rfl rfl ⟨(ti_any (-1)), hJ8⟩
    · refine b_if_eq C 26 dX9_moments_13 (by decide) (show (1 : Int32).toInt = 1 by decide) (fun c10 => absurd c10 (by decide)) (fun c10 => ?_)
      refine v_aload_n C 0 dX9_moments_16 rfl rfl ?_
      refine v_iload_n C 1 dX9_moments_17 rfl rfl ?_
      refine v_iload_n C 2 dX9_moments_18 rfl rfl ?_
      refine v_iconst (v := (-1)) C dX9_moments_19 (by decide) ?_
      obtain ⟨im15, hM15, hb15⟩ := hJ8.1.1
      have hq15 := hM15.b
      refine v_cVi C dX9_moments_20 lX9_191 mX9_momentOf 68 (by omega) hM15.2.2.1 (by decide) rfl (ty_X9_momentOf l G ad hJ8 x (show (0 : Int) ≤ Int32.toInt x ∧ Int32.toInt x ≤ 4 by omega) y (-1)) ⟨by decide, by decide⟩ rfl (Nat.le_of_ble_eq_true rfl) ⟨Nat.zero_le _, Nat.zero_le _⟩ (fun r11 E12 hp13 => ?_)
      obtain ⟨hp13, hJ14⟩ := hp13
      refine v_goto C 27 dX9_moments_23 (by decide) ?_
      exact v_ret C dX9_moments_27 rfl rfl ⟨(ti_any r11), hJ14⟩
  · refine b_if_eq C 26 dX9_moments_5 (by decide) (show (0 : Int32).toInt = 0 by decide) (fun c16 => ?_) (fun c16 => absurd c16 (by decide))
    refine v_iconst (v := (-1)) C dX9_moments_26 (by decide) ?_
    exact v_ret C dX9_moments_27 rfl rfl ⟨(ti_any (-1)), hJ⟩

set_option maxRecDepth 20000 in
theorem ty_X9_moment (l : Launch) (G : Gl) (ad : Nat → Nat) {Z : (Nat → va_E) → Prop} {kn : Int} {n : Nat} {ic md : Nat → Int32} {bd : Nat → Int × Int} {E0 E : Nat → va_E} (hJ : JY l Z kn G ad n ic md bd PR E0 E) (x : Int32) (y : Int32) (z : Int32) : CtI l G yX9_moment cX9_moment 5 .int 5 122 (n) ad E [.ref (ad 68), .int x, .int y, .int z] (fun r E' => ((-2147483648 : Int) ≤ r.toInt ∧ r.toInt ≤ 2147483647) ∧ JY l Z kn G ad n ic md bd PR E0 E') := by
  refine CtI.of (by decide) (Nat.le_of_ble_eq_true rfl) (fun X A C => ?_)
  refine v_sub (lv' := [(0, .ref (ad 68)), (1, .int x), (2, .int y), (3, .int z)]) [0, 1, 2, 3] rfl ?_
  have hn := hJ.hn
  have hz16 := hJ.1.2.2.2.2
  refine v_aload_n C 0 dX9_moment_0 rfl rfl ?_
  refine v_iload_n C 1 dX9_moment_1 rfl rfl ?_
  obtain ⟨im3, hM3, hb3⟩ := hJ.1.1
  have hq3 := hM3.b
  refine v_cVp C dX9_moment_2 lX9_162 mX9_isZone 68 (by omega) hM3.2.2.1 (by decide) rfl (ty_X9_isZone l G ad hJ x) ⟨by decide, by decide⟩ rfl (Nat.le_of_ble_eq_true rfl) ⟨Nat.zero_le _, Nat.zero_le _⟩ (fun r1 hp2 => ?_)
  rcases hp2 with ⟨rfl, hp2⟩ | ⟨rfl, hp2⟩
  · refine b_if_eq C 16 dX9_moment_5 (by decide) (show (1 : Int32).toInt = 1 by decide) (fun c4 => absurd c4 (by decide)) (fun c4 => ?_)
    refine v_aload_n C 0 dX9_moment_8 rfl rfl ?_
    refine v_iload_n C 2 dX9_moment_9 rfl rfl ?_
    refine v_cVi C dX9_moment_10 lX9_185 mX9_isWall 68 (by omega) hM3.2.2.1 (by decide) rfl (ty_X9_isWall l G ad hJ y) ⟨by decide, by decide⟩ rfl (Nat.le_of_ble_eq_true rfl) ⟨Nat.zero_le _, Nat.zero_le _⟩ (fun r5 E6 hp7 => ?_)
    obtain ⟨hp7, hJ8⟩ := hp7
    rcases hp7 with rfl | rfl
    · refine b_if_ne C 18 dX9_moment_13 (by decide) (show (0 : Int32).toInt = 0 by decide) (fun c9 => absurd c9 (by decide)) (fun c9 => ?_)
      refine v_iconst (v := (-1)) C dX9_moment_16 (by decide) ?_
      exact v_ret C dX9_moment_17 rfl rfl ⟨(ti_any (-1)), hJ8⟩
    · refine b_if_ne C 18 dX9_moment_13 (by decide) (show (1 : Int32).toInt = 1 by decide) (fun c10 => ?_) (fun c10 => absurd c10 (by decide))
      refine v_iload_n C 3 dX9_moment_18 rfl rfl ?_
      refine b_if_ge C 26 dX9_moment_19 (by decide) (rfl : Int32.toInt z = _) (fun c11 => ?_) (fun c11 => ?_)
      · refine v_aload_n C 0 dX9_moment_26 rfl rfl ?_
        refine v_iload_n C 1 dX9_moment_27 rfl rfl ?_
        refine v_iload_n C 2 dX9_moment_28 rfl rfl ?_
        refine v_iload_n C 3 dX9_moment_29 rfl rfl ?_
        obtain ⟨im16, hM16, hb16⟩ := hJ8.1.1
        have hq16 := hM16.b
        refine v_cVi C dX9_moment_30 lX9_191 mX9_momentOf 68 (by omega) hM16.2.2.1 (by decide) rfl (ty_X9_momentOf l G ad hJ8 x (show (0 : Int) ≤ Int32.toInt x ∧ Int32.toInt x ≤ 4 by omega) y z) ⟨by decide, by decide⟩ rfl (Nat.le_of_ble_eq_true rfl) ⟨Nat.zero_le _, Nat.zero_le _⟩ (fun r12 E13 hp14 => ?_)
        obtain ⟨hp14, hJ15⟩ := hp14
        refine v_istore (lv' := [(0, .ref (ad 68)), (1, .int x), (2, .int y), (3, .int z), (4, .int r12)]) C [1, 2, 3, 4, 0] dX9_moment_33 (by decide) rfl ?_
        refine v_iload C 4 dX9_moment_35 rfl ?_
        refine b_if_ge C 45 dX9_moment_37 (by decide) (rfl : Int32.toInt r12 = _) (fun c17 => ?_) (fun c17 => ?_)
        · refine v_iload C 4 dX9_moment_45 rfl ?_
          exact v_ret C dX9_moment_47 rfl rfl ⟨(ti_any r12), hJ15⟩
        · refine v_bipush (v := (-6)) C dX9_moment_40 (by decide) ?_
          refine v_goto C 47 dX9_moment_42 (by decide) ?_
          exact v_ret C dX9_moment_47 rfl rfl ⟨(ti_any (-6)), hJ15⟩
      · refine v_iconst (v := (-1)) C dX9_moment_22 (by decide) ?_
        refine v_goto C 33 dX9_moment_23 (by decide) ?_
        refine v_istore (lv' := [(0, .ref (ad 68)), (1, .int x), (2, .int y), (3, .int z), (4, .int (-1))]) C [1, 2, 3, 4, 0] dX9_moment_33 (by decide) rfl ?_
        refine v_iload C 4 dX9_moment_35 rfl ?_
        refine b_if_ge C 45 dX9_moment_37 (by decide) (show ((-1) : Int32).toInt = (-1) by decide) (fun c18 => absurd c18 (by decide)) (fun c18 => ?_)
        refine v_bipush (v := (-6)) C dX9_moment_40 (by decide) ?_
        refine v_goto C 47 dX9_moment_42 (by decide) ?_
        exact v_ret C dX9_moment_47 rfl rfl ⟨(ti_any (-6)), hJ8⟩
  · refine b_if_eq C 16 dX9_moment_5 (by decide) (show (0 : Int32).toInt = 0 by decide) (fun c19 => ?_) (fun c19 => absurd c19 (by decide))
    refine v_iconst (v := (-1)) C dX9_moment_16 (by decide) ?_
    exact v_ret C dX9_moment_17 rfl rfl ⟨(ti_any (-1)), hJ⟩

set_option maxRecDepth 20000 in
theorem ty_X9_firstFrom (l : Launch) (G : Gl) (ad : Nat → Nat) {Z : (Nat → va_E) → Prop} {kn : Int} {n : Nat} {ic md : Nat → Int32} {bd : Nat → Int × Int} {E0 E : Nat → va_E} (hJ : JY l Z kn G ad n ic md bd PR E0 E) (x : Int32) (hx : (0 : Int) ≤ x.toInt ∧ x.toInt ≤ 4) (y : Int32) (z : Int32) : CtI l G yX9_firstFrom cX9_firstFrom 8 .int 4 96 (n) ad E [.ref (ad 68), .int x, .int y, .int z] (fun r E' => ((-2147483648 : Int) ≤ r.toInt ∧ r.toInt ≤ 2147483647) ∧ JY l Z kn G ad n ic md bd PR E0 E') := by
  refine CtI.of (by decide) (Nat.le_of_ble_eq_true rfl) (fun X A C => ?_)
  refine v_sub (lv' := [(0, .ref (ad 68)), (1, .int x), (2, .int y), (3, .int z)]) [0, 1, 2, 3] rfl ?_
  have hn := hJ.hn
  have hz16 := hJ.1.2.2.2.2
  refine v_aload_n C 0 dX9_firstFrom_0 rfl rfl ?_
  refine v_iload_n C 1 dX9_firstFrom_1 rfl rfl ?_
  obtain ⟨im5, hM5, hb5⟩ := hJ.1.1
  have hq5 := hM5.b
  refine v_cVv C dX9_firstFrom_2 lX9_171 mX9_find 68 (by omega) hM5.2.2.1 (by decide) rfl (ty_X9_find l G ad hJ x (show (0 : Int) ≤ Int32.toInt x ∧ Int32.toInt x ≤ 4 by omega)) ⟨by decide, by decide⟩ rfl (Nat.le_of_ble_eq_true rfl) ⟨Nat.zero_le _, Nat.zero_le _⟩ (fun E2 hJ4 => ?_)
  refine v_iconst (v := 0) C dX9_firstFrom_5 (by decide) ?_
  refine v_istore (lv' := [(0, .ref (ad 68)), (1, .int x), (2, .int y), (3, .int z), (4, .int 0)]) C [1, 2, 3, 4, 0] dX9_firstFrom_6 (by decide) rfl ?_
  have LP6 : ∀ (t : Nat) (E8 : Nat → va_E) (y7 : Int32), JY l Z kn G ad n ic md bd PR E0 E8 → ((0 : Int) ≤ y7.toInt ∧ y7.toInt ≤ 801) → 802 - y7.toInt < (t : Int) → V X G A 8 (QI X G A (n) ad (fun r E' => ((-2147483648 : Int) ≤ r.toInt ∧ r.toInt ≤ 2147483647) ∧ JY l Z kn G ad n ic md bd PR E0 E')) n ad 0 0 E8 8 [(0, .ref (ad 68)), (1, .int x), (2, .int y), (3, .int z), (4, .int y7)] [] := by
    intro t12
    induction t12 with
    | zero => intro E8 y7 hJ9 hy7 hm11; exfalso; omega
    | succ t12 ih10 =>
      intro E8 y7 hJ9 hy7 hm11
      refine v_iload C 4 dX9_firstFrom_8 rfl ?_
      refine v_aload_n C 0 dX9_firstFrom_10 rfl rfl ?_
      obtain ⟨im13, hM13, hb13⟩ := hJ9.1.1
      have hq13 := hM13.b
      refine v_getr C 68 dX9_firstFrom_11 fX9_67 (by omega) hM13.2.2.1 rfl rfl ?_
      refine v_iload_n C 1 dX9_firstFrom_14 rfl rfl ?_
      obtain ⟨f15, hE15, hb15⟩ := hJ9.1.2.1.getA (b := 82) (by omega) rfl
      refine v_ald (v := f15 (x.toInt).toNat) C 82 dX9_firstFrom_15 (by omega) hE15 (ti_in (rfl : Int32.toInt x = _) (by omega) (by omega)) (by rw [ti_cl (rfl : Int32.toInt x = _)]) ?_
      refine v_top (fun x16 ex16 => ?_)
      have hx16 : (0 : Int) ≤ x16.toInt ∧ x16.toInt ≤ 800 := by rw [ex16]; exact hb15 _
      refine b_icmp_gt C 99 dX9_firstFrom_16 (by decide) (rfl : Int32.toInt y7 = _) (rfl : Int32.toInt x16 = _) (fun c17 => ?_) (fun c17 => ?_)
      · refine v_iconst (v := (-1)) C dX9_firstFrom_99 (by decide) ?_
        exact v_ret C dX9_firstFrom_100 rfl rfl ⟨(ti_any (-1)), hJ9⟩
      · refine v_aload_n C 0 dX9_firstFrom_19 rfl rfl ?_
        refine v_getr C 68 dX9_firstFrom_20 fX9_64 (by omega) hM13.2.2.1 rfl rfl ?_
        refine v_sipush (v := 801) C dX9_firstFrom_23 (by decide) ?_
        refine v_iload_n C 1 dX9_firstFrom_26 rfl rfl ?_
        refine v_imul C dX9_firstFrom_27 ?_
        refine v_top (fun x18 ex18 => ?_)
        have hx18 : x18.toInt = (801 * x.toInt) := by rw [ex18]; exact ti_mul (show (801 : Int32).toInt = 801 by decide) (rfl : Int32.toInt x = _) (by omega) (by omega)
        refine v_iload C 4 dX9_firstFrom_28 rfl ?_
        refine v_iadd C dX9_firstFrom_30 ?_
        refine v_top (fun x19 ex19 => ?_)
        have hx19 : x19.toInt = ((801 * x.toInt) + y7.toInt) := by rw [ex19]; exact ti_add hx18 (rfl : Int32.toInt y7 = _) (by omega) (by omega)
        obtain ⟨f21, hE21, hb21⟩ := hJ9.1.2.1.getA (b := 81) (by omega) rfl
        refine v_ald (v := f21 (((801 * x.toInt) + y7.toInt)).toNat) C 81 dX9_firstFrom_31 (by omega) hE21 (ti_in hx19 (by omega) (by omega)) (by rw [ti_cl hx19]) ?_
        refine v_top (fun x22 _ => ?_)
        refine v_istore (lv' := [(0, .ref (ad 68)), (1, .int x), (2, .int y), (3, .int z), (4, .int y7), (5, .int x22)]) C [1, 2, 3, 4, 5, 0] dX9_firstFrom_32 (by decide) rfl ?_
        refine v_aload_n C 0 dX9_firstFrom_34 rfl rfl ?_
        refine v_getr C 68 dX9_firstFrom_35 fX9_61 (by omega) hM13.2.2.1 rfl rfl ?_
        refine v_sipush (v := 801) C dX9_firstFrom_38 (by decide) ?_
        refine v_iload_n C 1 dX9_firstFrom_41 rfl rfl ?_
        refine v_imul C dX9_firstFrom_42 ?_
        refine v_top (fun x23 ex23 => ?_)
        have hx23 : x23.toInt = (801 * x.toInt) := by rw [ex23]; exact ti_mul (show (801 : Int32).toInt = 801 by decide) (rfl : Int32.toInt x = _) (by omega) (by omega)
        refine v_iload C 4 dX9_firstFrom_43 rfl ?_
        refine v_iadd C dX9_firstFrom_45 ?_
        refine v_top (fun x24 ex24 => ?_)
        have hx24 : x24.toInt = ((801 * x.toInt) + y7.toInt) := by rw [ex24]; exact ti_add hx23 (rfl : Int32.toInt y7 = _) (by omega) (by omega)
        obtain ⟨f26, hE26, hb26⟩ := hJ9.1.2.1.getA (b := 80) (by omega) rfl
        refine v_ald (v := f26 (((801 * x.toInt) + y7.toInt)).toNat) C 80 dX9_firstFrom_46 (by omega) hE26 (ti_in hx24 (by omega) (by omega)) (by rw [ti_cl hx24]) ?_
        refine v_top (fun x27 _ => ?_)
        refine v_istore (lv' := [(0, .ref (ad 68)), (1, .int x), (2, .int y), (3, .int z), (4, .int y7), (5, .int x22), (6, .int x27)]) C [1, 2, 3, 4, 5, 6, 0] dX9_firstFrom_47 (by decide) rfl ?_
        refine v_iload_n C 2 dX9_firstFrom_49 rfl rfl ?_
        refine v_iload C 5 dX9_firstFrom_50 rfl ?_
        refine v_isub C dX9_firstFrom_52 ?_
        refine v_top (fun x28 _ => ?_)
        refine v_iload C 6 dX9_firstFrom_53 rfl ?_
        refine b_icmp_le C 65 dX9_firstFrom_55 (by decide) (rfl : Int32.toInt x28 = _) (rfl : Int32.toInt x27 = _) (fun c29 => ?_) (fun c29 => ?_)
        · refine v_iload C 6 dX9_firstFrom_65 rfl ?_
          refine v_istore (lv' := [(0, .ref (ad 68)), (1, .int x), (2, .int y), (3, .int z), (4, .int y7), (5, .int x22), (6, .int x27), (7, .int x27)]) C [1, 2, 3, 4, 5, 6, 7, 0] dX9_firstFrom_67 (by decide) rfl ?_
          refine v_iload C 7 dX9_firstFrom_69 rfl ?_
          refine v_aload_n C 0 dX9_firstFrom_71 rfl rfl ?_
          refine v_iload_n C 1 dX9_firstFrom_72 rfl rfl ?_
          refine v_iload C 4 dX9_firstFrom_73 rfl ?_
          refine v_cVp C dX9_firstFrom_75 lX9_188 mX9_spanEnd 68 (by omega) hM13.2.2.1 (by decide) rfl (ty_X9_spanEnd l G ad hJ9 x (show (0 : Int) ≤ Int32.toInt x ∧ Int32.toInt x ≤ 4 by omega) y7 (show (0 : Int) ≤ Int32.toInt y7 ∧ Int32.toInt y7 ≤ 800 by omega) (fun f hf => by rw [aI_inj (hf.symm.trans hE15), ← ex16]; omega)) ⟨by decide, by decide⟩ rfl (Nat.le_of_ble_eq_true rfl) ⟨Nat.zero_le _, Nat.zero_le _⟩ (fun r30 hp31 => ?_)
          refine b_icmp_gt C 93 dX9_firstFrom_78 (by decide) (rfl : Int32.toInt x27 = _) (rfl : Int32.toInt r30 = _) (fun c32 => ?_) (fun c32 => ?_)
          · obtain ⟨x33, ex33⟩ : ∃ y : Int32, y = y7 + 1 := ⟨_, rfl⟩
            have hx33 : x33.toInt = (y7.toInt + 1) := by rw [ex33]; exact ti_add (rfl : Int32.toInt y7 = _) (show (1 : Int32).toInt = 1 by decide) (by omega) (by omega)
            refine v_iinc (v := x33) (lv' := [(0, .ref (ad 68)), (1, .int x), (2, .int y), (3, .int z), (4, .int x33), (5, .int x22), (6, .int x27), (7, .int x27)]) C 4 [1, 2, 3, 4, 0, 5, 6, 7] dX9_firstFrom_93 rfl (ex33.symm) (by decide) rfl ?_
            refine v_goto C 8 dX9_firstFrom_96 (by decide) ?_
            refine v_sub (lv' := [(0, .ref (ad 68)), (1, .int x), (2, .int y), (3, .int z), (4, .int x33)]) [0, 1, 2, 3, 4] rfl ?_
            exact ih10 _ x33 hJ9 (by have := hx33; omega) (by have := hx33; omega)
          · refine v_iload C 7 dX9_firstFrom_81 rfl ?_
            refine v_iload C 5 dX9_firstFrom_83 rfl ?_
            refine v_iadd C dX9_firstFrom_85 ?_
            refine v_top (fun x34 _ => ?_)
            refine v_iload_n C 3 dX9_firstFrom_86 rfl rfl ?_
            refine b_icmp_gt C 93 dX9_firstFrom_87 (by decide) (rfl : Int32.toInt x34 = _) (rfl : Int32.toInt z = _) (fun c35 => ?_) (fun c35 => ?_)
            · obtain ⟨x36, ex36⟩ : ∃ y : Int32, y = y7 + 1 := ⟨_, rfl⟩
              have hx36 : x36.toInt = (y7.toInt + 1) := by rw [ex36]; exact ti_add (rfl : Int32.toInt y7 = _) (show (1 : Int32).toInt = 1 by decide) (by omega) (by omega)
              refine v_iinc (v := x36) (lv' := [(0, .ref (ad 68)), (1, .int x), (2, .int y), (3, .int z), (4, .int x36), (5, .int x22), (6, .int x27), (7, .int x27)]) C 4 [1, 2, 3, 4, 0, 5, 6, 7] dX9_firstFrom_93 rfl (ex36.symm) (by decide) rfl ?_
              refine v_goto C 8 dX9_firstFrom_96 (by decide) ?_
              refine v_sub (lv' := [(0, .ref (ad 68)), (1, .int x), (2, .int y), (3, .int z), (4, .int x36)]) [0, 1, 2, 3, 4] rfl ?_
              exact ih10 _ x36 hJ9 (by have := hx36; omega) (by have := hx36; omega)
            · refine v_iload C 7 dX9_firstFrom_90 rfl ?_
              exact v_ret C dX9_firstFrom_92 rfl rfl ⟨(ti_any x27), hJ9⟩
        · refine v_iload_n C 2 dX9_firstFrom_58 rfl rfl ?_
          refine v_iload C 5 dX9_firstFrom_59 rfl ?_
          refine v_isub C dX9_firstFrom_61 ?_
          refine v_top (fun x37 _ => ?_)
          refine v_goto C 67 dX9_firstFrom_62 (by decide) ?_
          refine v_istore (lv' := [(0, .ref (ad 68)), (1, .int x), (2, .int y), (3, .int z), (4, .int y7), (5, .int x22), (6, .int x27), (7, .int x37)]) C [1, 2, 3, 4, 5, 6, 7, 0] dX9_firstFrom_67 (by decide) rfl ?_
          refine v_iload C 7 dX9_firstFrom_69 rfl ?_
          refine v_aload_n C 0 dX9_firstFrom_71 rfl rfl ?_
          refine v_iload_n C 1 dX9_firstFrom_72 rfl rfl ?_
          refine v_iload C 4 dX9_firstFrom_73 rfl ?_
          refine v_cVp C dX9_firstFrom_75 lX9_188 mX9_spanEnd 68 (by omega) hM13.2.2.1 (by decide) rfl (ty_X9_spanEnd l G ad hJ9 x (show (0 : Int) ≤ Int32.toInt x ∧ Int32.toInt x ≤ 4 by omega) y7 (show (0 : Int) ≤ Int32.toInt y7 ∧ Int32.toInt y7 ≤ 800 by omega) (fun f hf => by rw [aI_inj (hf.symm.trans hE15), ← ex16]; omega)) ⟨by decide, by decide⟩ rfl (Nat.le_of_ble_eq_true rfl) ⟨Nat.zero_le _, Nat.zero_le _⟩ (fun r38 hp39 => ?_)
          refine b_icmp_gt C 93 dX9_firstFrom_78 (by decide) (rfl : Int32.toInt x37 = _) (rfl : Int32.toInt r38 = _) (fun c40 => ?_) (fun c40 => ?_)
          · obtain ⟨x41, ex41⟩ : ∃ y : Int32, y = y7 + 1 := ⟨_, rfl⟩
            have hx41 : x41.toInt = (y7.toInt + 1) := by rw [ex41]; exact ti_add (rfl : Int32.toInt y7 = _) (show (1 : Int32).toInt = 1 by decide) (by omega) (by omega)
            refine v_iinc (v := x41) (lv' := [(0, .ref (ad 68)), (1, .int x), (2, .int y), (3, .int z), (4, .int x41), (5, .int x22), (6, .int x27), (7, .int x37)]) C 4 [1, 2, 3, 4, 0, 5, 6, 7] dX9_firstFrom_93 rfl (ex41.symm) (by decide) rfl ?_
            refine v_goto C 8 dX9_firstFrom_96 (by decide) ?_
            refine v_sub (lv' := [(0, .ref (ad 68)), (1, .int x), (2, .int y), (3, .int z), (4, .int x41)]) [0, 1, 2, 3, 4] rfl ?_
            exact ih10 _ x41 hJ9 (by have := hx41; omega) (by have := hx41; omega)
          · refine v_iload C 7 dX9_firstFrom_81 rfl ?_
            refine v_iload C 5 dX9_firstFrom_83 rfl ?_
            refine v_iadd C dX9_firstFrom_85 ?_
            refine v_top (fun x42 _ => ?_)
            refine v_iload_n C 3 dX9_firstFrom_86 rfl rfl ?_
            refine b_icmp_gt C 93 dX9_firstFrom_87 (by decide) (rfl : Int32.toInt x42 = _) (rfl : Int32.toInt z = _) (fun c43 => ?_) (fun c43 => ?_)
            · obtain ⟨x44, ex44⟩ : ∃ y : Int32, y = y7 + 1 := ⟨_, rfl⟩
              have hx44 : x44.toInt = (y7.toInt + 1) := by rw [ex44]; exact ti_add (rfl : Int32.toInt y7 = _) (show (1 : Int32).toInt = 1 by decide) (by omega) (by omega)
              refine v_iinc (v := x44) (lv' := [(0, .ref (ad 68)), (1, .int x), (2, .int y), (3, .int z), (4, .int x44), (5, .int x22), (6, .int x27), (7, .int x37)]) C 4 [1, 2, 3, 4, 0, 5, 6, 7] dX9_firstFrom_93 rfl (ex44.symm) (by decide) rfl ?_
              refine v_goto C 8 dX9_firstFrom_96 (by decide) ?_
              refine v_sub (lv' := [(0, .ref (ad 68)), (1, .int x), (2, .int y), (3, .int z), (4, .int x44)]) [0, 1, 2, 3, 4] rfl ?_
              exact ih10 _ x44 hJ9 (by have := hx44; omega) (by have := hx44; omega)
            · refine v_iload C 7 dX9_firstFrom_90 rfl ?_
              exact v_ret C dX9_firstFrom_92 rfl rfl ⟨(ti_any x37), hJ9⟩
  exact LP6 100000 _ 0 hJ4 (by have := (show (0 : Int32).toInt = 0 by decide); omega) (by have := (show (0 : Int32).toInt = 0 by decide); omega)

set_option maxRecDepth 20000 in
theorem ty_X9_lastAhead (l : Launch) (G : Gl) (ad : Nat → Nat) {Z : (Nat → va_E) → Prop} {kn : Int} {n : Nat} {ic md : Nat → Int32} {bd : Nat → Int × Int} {E0 E : Nat → va_E} (hJ : JY l Z kn G ad n ic md bd PR E0 E) (x : Int32) (hx : (0 : Int) ≤ x.toInt ∧ x.toInt ≤ 4) (y : Int32) : CtI l G yX9_lastAhead cX9_lastAhead 6 .int 4 96 (n) ad E [.ref (ad 68), .int x, .int y] (fun r E' => ((-2147483648 : Int) ≤ r.toInt ∧ r.toInt ≤ 2147483647) ∧ JY l Z kn G ad n ic md bd PR E0 E') := by
  refine CtI.of (by decide) (Nat.le_of_ble_eq_true rfl) (fun X A C => ?_)
  refine v_sub (lv' := [(0, .ref (ad 68)), (1, .int x), (2, .int y)]) [0, 1, 2] rfl ?_
  have hn := hJ.hn
  have hz16 := hJ.1.2.2.2.2
  refine v_aload_n C 0 dX9_lastAhead_0 rfl rfl ?_
  refine v_iload_n C 1 dX9_lastAhead_1 rfl rfl ?_
  obtain ⟨im5, hM5, hb5⟩ := hJ.1.1
  have hq5 := hM5.b
  refine v_cVv C dX9_lastAhead_2 lX9_171 mX9_find 68 (by omega) hM5.2.2.1 (by decide) rfl (ty_X9_find l G ad hJ x (show (0 : Int) ≤ Int32.toInt x ∧ Int32.toInt x ≤ 4 by omega)) ⟨by decide, by decide⟩ rfl (Nat.le_of_ble_eq_true rfl) ⟨Nat.zero_le _, Nat.zero_le _⟩ (fun E2 hJ4 => ?_)
  refine v_aload_n C 0 dX9_lastAhead_5 rfl rfl ?_
  obtain ⟨im6, hM6, hb6⟩ := hJ4.1.1
  have hq6 := hM6.b
  refine v_getr C 68 dX9_lastAhead_6 fX9_67 (by omega) hM6.2.2.1 rfl rfl ?_
  refine v_iload_n C 1 dX9_lastAhead_9 rfl rfl ?_
  obtain ⟨f8, hE8, hb8⟩ := hJ4.1.2.1.getA (b := 82) (by omega) rfl
  refine v_ald (v := f8 (x.toInt).toNat) C 82 dX9_lastAhead_10 (by omega) hE8 (ti_in (rfl : Int32.toInt x = _) (by omega) (by omega)) (by rw [ti_cl (rfl : Int32.toInt x = _)]) ?_
  refine v_top (fun x9 ex9 => ?_)
  have hx9 : (0 : Int) ≤ x9.toInt ∧ x9.toInt ≤ 800 := by rw [ex9]; exact hb8 _
  refine v_istore_n (lv' := [(0, .ref (ad 68)), (1, .int x), (2, .int y), (3, .int x9)]) C [1, 2, 3, 0] dX9_lastAhead_11 rfl (by decide) rfl ?_
  have LP10 : ∀ (t : Nat) (y11 : Int32), ((-1 : Int) ≤ y11.toInt ∧ y11.toInt ≤ 800) → (y11.toInt ≤ x9.toInt) → y11.toInt + 1 < (t : Int) → V X G A 6 (QI X G A (n) ad (fun r E' => ((-2147483648 : Int) ≤ r.toInt ∧ r.toInt ≤ 2147483647) ∧ JY l Z kn G ad n ic md bd PR E0 E')) n ad 0 0 E2 12 [(0, .ref (ad 68)), (1, .int x), (2, .int y), (3, .int y11)] [] := by
    intro t17
    induction t17 with
    | zero => intro y11 hy11 hq12 hm16; exfalso; omega
    | succ t17 ih15 =>
      intro y11 hy11 hq12 hm16
      refine v_iload_n C 3 dX9_lastAhead_12 rfl rfl ?_
      refine b_if_lt C 88 dX9_lastAhead_13 (by decide) (rfl : Int32.toInt y11 = _) (fun c18 => ?_) (fun c18 => ?_)
      · refine v_iconst (v := (-1)) C dX9_lastAhead_88 (by decide) ?_
        exact v_ret C dX9_lastAhead_89 rfl rfl ⟨(ti_any (-1)), hJ4⟩
      · refine v_aload_n C 0 dX9_lastAhead_16 rfl rfl ?_
        refine v_getr C 68 dX9_lastAhead_17 fX9_64 (by omega) hM6.2.2.1 rfl rfl ?_
        refine v_sipush (v := 801) C dX9_lastAhead_20 (by decide) ?_
        refine v_iload_n C 1 dX9_lastAhead_23 rfl rfl ?_
        refine v_imul C dX9_lastAhead_24 ?_
        refine v_top (fun x19 ex19 => ?_)
        have hx19 : x19.toInt = (801 * x.toInt) := by rw [ex19]; exact ti_mul (show (801 : Int32).toInt = 801 by decide) (rfl : Int32.toInt x = _) (by omega) (by omega)
        refine v_iload_n C 3 dX9_lastAhead_25 rfl rfl ?_
        refine v_iadd C dX9_lastAhead_26 ?_
        refine v_top (fun x20 ex20 => ?_)
        have hx20 : x20.toInt = ((801 * x.toInt) + y11.toInt) := by rw [ex20]; exact ti_add hx19 (rfl : Int32.toInt y11 = _) (by omega) (by omega)
        obtain ⟨f22, hE22, hb22⟩ := hJ4.1.2.1.getA (b := 81) (by omega) rfl
        refine v_ald (v := f22 (((801 * x.toInt) + y11.toInt)).toNat) C 81 dX9_lastAhead_27 (by omega) hE22 (ti_in hx20 (by omega) (by omega)) (by rw [ti_cl hx20]) ?_
        refine v_top (fun x23 _ => ?_)
        refine v_istore (lv' := [(0, .ref (ad 68)), (1, .int x), (2, .int y), (3, .int y11), (4, .int x23)]) C [1, 2, 3, 4, 0] dX9_lastAhead_28 (by decide) rfl ?_
        refine v_iload_n C 2 dX9_lastAhead_30 rfl rfl ?_
        refine v_iconst (v := 1) C dX9_lastAhead_31 (by decide) ?_
        refine v_isub C dX9_lastAhead_32 ?_
        refine v_top (fun x24 _ => ?_)
        refine v_iload C 4 dX9_lastAhead_33 rfl ?_
        refine v_isub C dX9_lastAhead_35 ?_
        refine v_top (fun x25 _ => ?_)
        refine v_aload_n C 0 dX9_lastAhead_36 rfl rfl ?_
        refine v_iload_n C 1 dX9_lastAhead_37 rfl rfl ?_
        refine v_iload_n C 3 dX9_lastAhead_38 rfl rfl ?_
        refine v_cVp C dX9_lastAhead_39 lX9_188 mX9_spanEnd 68 (by omega) hM6.2.2.1 (by decide) rfl (ty_X9_spanEnd l G ad hJ4 x (show (0 : Int) ≤ Int32.toInt x ∧ Int32.toInt x ≤ 4 by omega) y11 (show (0 : Int) ≤ Int32.toInt y11 ∧ Int32.toInt y11 ≤ 800 by omega) (fun f hf => by rw [aI_inj (hf.symm.trans hE8), ← ex9]; omega)) ⟨by decide, by decide⟩ rfl (Nat.le_of_ble_eq_true rfl) ⟨Nat.zero_le _, Nat.zero_le _⟩ (fun r26 hp27 => ?_)
        refine b_icmp_ge C 54 dX9_lastAhead_42 (by decide) (rfl : Int32.toInt x25 = _) (rfl : Int32.toInt r26 = _) (fun c28 => ?_) (fun c28 => ?_)
        · refine v_aload_n C 0 dX9_lastAhead_54 rfl rfl ?_
          refine v_iload_n C 1 dX9_lastAhead_55 rfl rfl ?_
          refine v_iload_n C 3 dX9_lastAhead_56 rfl rfl ?_
          refine v_cVp C dX9_lastAhead_57 lX9_188 mX9_spanEnd 68 (by omega) hM6.2.2.1 (by decide) rfl (ty_X9_spanEnd l G ad hJ4 x (show (0 : Int) ≤ Int32.toInt x ∧ Int32.toInt x ≤ 4 by omega) y11 (show (0 : Int) ≤ Int32.toInt y11 ∧ Int32.toInt y11 ≤ 800 by omega) (fun f hf => by rw [aI_inj (hf.symm.trans hE8), ← ex9]; omega)) ⟨by decide, by decide⟩ rfl (Nat.le_of_ble_eq_true rfl) ⟨Nat.zero_le _, Nat.zero_le _⟩ (fun r29 hp30 => ?_)
          refine v_istore (lv' := [(0, .ref (ad 68)), (1, .int x), (2, .int y), (3, .int y11), (4, .int x23), (5, .int r29)]) C [1, 2, 3, 4, 5, 0] dX9_lastAhead_60 (by decide) rfl ?_
          refine v_iload C 5 dX9_lastAhead_62 rfl ?_
          refine v_aload_n C 0 dX9_lastAhead_64 rfl rfl ?_
          refine v_getr C 68 dX9_lastAhead_65 fX9_61 (by omega) hM6.2.2.1 rfl rfl ?_
          refine v_sipush (v := 801) C dX9_lastAhead_68 (by decide) ?_
          refine v_iload_n C 1 dX9_lastAhead_71 rfl rfl ?_
          refine v_imul C dX9_lastAhead_72 ?_
          refine v_top (fun x31 ex31 => ?_)
          have hx31 : x31.toInt = (801 * x.toInt) := by rw [ex31]; exact ti_mul (show (801 : Int32).toInt = 801 by decide) (rfl : Int32.toInt x = _) (by omega) (by omega)
          refine v_iload_n C 3 dX9_lastAhead_73 rfl rfl ?_
          refine v_iadd C dX9_lastAhead_74 ?_
          refine v_top (fun x32 ex32 => ?_)
          have hx32 : x32.toInt = ((801 * x.toInt) + y11.toInt) := by rw [ex32]; exact ti_add hx31 (rfl : Int32.toInt y11 = _) (by omega) (by omega)
          obtain ⟨f34, hE34, hb34⟩ := hJ4.1.2.1.getA (b := 80) (by omega) rfl
          refine v_ald (v := f34 (((801 * x.toInt) + y11.toInt)).toNat) C 80 dX9_lastAhead_75 (by omega) hE34 (ti_in hx32 (by omega) (by omega)) (by rw [ti_cl hx32]) ?_
          refine v_top (fun x35 _ => ?_)
          refine b_icmp_lt C 82 dX9_lastAhead_76 (by decide) (rfl : Int32.toInt r29 = _) (rfl : Int32.toInt x35 = _) (fun c36 => ?_) (fun c36 => ?_)
          · obtain ⟨x37, ex37⟩ : ∃ y : Int32, y = y11 + (-1) := ⟨_, rfl⟩
            have hx37 : x37.toInt = (y11.toInt + (-1)) := by rw [ex37]; exact ti_add (rfl : Int32.toInt y11 = _) (show ((-1) : Int32).toInt = (-1) by decide) (by omega) (by omega)
            refine v_iinc (v := x37) (lv' := [(0, .ref (ad 68)), (1, .int x), (2, .int y), (3, .int x37), (4, .int x23), (5, .int r29)]) C 3 [1, 2, 3, 0, 4, 5] dX9_lastAhead_82 rfl (ex37.symm) (by decide) rfl ?_
            refine v_goto C 12 dX9_lastAhead_85 (by decide) ?_
            refine v_sub (lv' := [(0, .ref (ad 68)), (1, .int x), (2, .int y), (3, .int x37)]) [0, 1, 2, 3] rfl ?_
            exact ih15 x37  (by have := hx37; omega) (by have := hx37; omega) (by have := hx37; omega)
          · refine v_iload C 5 dX9_lastAhead_79 rfl ?_
            exact v_ret C dX9_lastAhead_81 rfl rfl ⟨(ti_any r29), hJ4⟩
        · refine v_iload_n C 2 dX9_lastAhead_45 rfl rfl ?_
          refine v_iconst (v := 1) C dX9_lastAhead_46 (by decide) ?_
          refine v_isub C dX9_lastAhead_47 ?_
          refine v_top (fun x38 _ => ?_)
          refine v_iload C 4 dX9_lastAhead_48 rfl ?_
          refine v_isub C dX9_lastAhead_50 ?_
          refine v_top (fun x39 _ => ?_)
          refine v_goto C 60 dX9_lastAhead_51 (by decide) ?_
          refine v_istore (lv' := [(0, .ref (ad 68)), (1, .int x), (2, .int y), (3, .int y11), (4, .int x23), (5, .int x39)]) C [1, 2, 3, 4, 5, 0] dX9_lastAhead_60 (by decide) rfl ?_
          refine v_iload C 5 dX9_lastAhead_62 rfl ?_
          refine v_aload_n C 0 dX9_lastAhead_64 rfl rfl ?_
          refine v_getr C 68 dX9_lastAhead_65 fX9_61 (by omega) hM6.2.2.1 rfl rfl ?_
          refine v_sipush (v := 801) C dX9_lastAhead_68 (by decide) ?_
          refine v_iload_n C 1 dX9_lastAhead_71 rfl rfl ?_
          refine v_imul C dX9_lastAhead_72 ?_
          refine v_top (fun x40 ex40 => ?_)
          have hx40 : x40.toInt = (801 * x.toInt) := by rw [ex40]; exact ti_mul (show (801 : Int32).toInt = 801 by decide) (rfl : Int32.toInt x = _) (by omega) (by omega)
          refine v_iload_n C 3 dX9_lastAhead_73 rfl rfl ?_
          refine v_iadd C dX9_lastAhead_74 ?_
          refine v_top (fun x41 ex41 => ?_)
          have hx41 : x41.toInt = ((801 * x.toInt) + y11.toInt) := by rw [ex41]; exact ti_add hx40 (rfl : Int32.toInt y11 = _) (by omega) (by omega)
          obtain ⟨f43, hE43, hb43⟩ := hJ4.1.2.1.getA (b := 80) (by omega) rfl
          refine v_ald (v := f43 (((801 * x.toInt) + y11.toInt)).toNat) C 80 dX9_lastAhead_75 (by omega) hE43 (ti_in hx41 (by omega) (by omega)) (by rw [ti_cl hx41]) ?_
          refine v_top (fun x44 _ => ?_)
          refine b_icmp_lt C 82 dX9_lastAhead_76 (by decide) (rfl : Int32.toInt x39 = _) (rfl : Int32.toInt x44 = _) (fun c45 => ?_) (fun c45 => ?_)
          · obtain ⟨x46, ex46⟩ : ∃ y : Int32, y = y11 + (-1) := ⟨_, rfl⟩
            have hx46 : x46.toInt = (y11.toInt + (-1)) := by rw [ex46]; exact ti_add (rfl : Int32.toInt y11 = _) (show ((-1) : Int32).toInt = (-1) by decide) (by omega) (by omega)
            refine v_iinc (v := x46) (lv' := [(0, .ref (ad 68)), (1, .int x), (2, .int y), (3, .int x46), (4, .int x23), (5, .int x39)]) C 3 [1, 2, 3, 0, 4, 5] dX9_lastAhead_82 rfl (ex46.symm) (by decide) rfl ?_
            refine v_goto C 12 dX9_lastAhead_85 (by decide) ?_
            refine v_sub (lv' := [(0, .ref (ad 68)), (1, .int x), (2, .int y), (3, .int x46)]) [0, 1, 2, 3] rfl ?_
            exact ih15 x46  (by have := hx46; omega) (by have := hx46; omega) (by have := hx46; omega)
          · refine v_iload C 5 dX9_lastAhead_79 rfl ?_
            exact v_ret C dX9_lastAhead_81 rfl rfl ⟨(ti_any x39), hJ4⟩
  exact LP10 100000 x9  (by omega) (by omega) (by omega)

set_option maxRecDepth 20000 in
theorem ty_X9_turned (l : Launch) (G : Gl) (ad : Nat → Nat) {Z : (Nat → va_E) → Prop} {kn : Int} {n : Nat} {ic md : Nat → Int32} {bd : Nat → Int × Int} {E0 E : Nat → va_E} (hJ : JY l Z kn G ad n ic md bd PR E0 E) (x : Int32) (hx : (0 : Int) ≤ x.toInt ∧ x.toInt ≤ 4) (y : Int32) (z : Int32) : CtI l G yX9_turned cX9_turned 5 .int 5 123 (n) ad E [.ref (ad 68), .int x, .int y, .int z] (fun r E' => ((-2147483648 : Int) ≤ r.toInt ∧ r.toInt ≤ 2147483647) ∧ JY l Z kn G ad n ic md bd PR E0 E') := by
  refine CtI.of (by decide) (Nat.le_of_ble_eq_true rfl) (fun X A C => ?_)
  refine v_sub (lv' := [(0, .ref (ad 68)), (1, .int x), (2, .int y), (3, .int z)]) [0, 1, 2, 3] rfl ?_
  have hn := hJ.hn
  have hz16 := hJ.1.2.2.2.2
  refine v_aload_n C 0 dX9_turned_0 rfl rfl ?_
  refine v_iload_n C 1 dX9_turned_1 rfl rfl ?_
  refine v_iload_n C 2 dX9_turned_2 rfl rfl ?_
  refine v_iconst (v := (-1)) C dX9_turned_3 (by decide) ?_
  obtain ⟨im5, hM5, hb5⟩ := hJ.1.1
  have hq5 := hM5.b
  refine v_cVi C dX9_turned_4 lX9_191 mX9_momentOf 68 (by omega) hM5.2.2.1 (by decide) rfl (ty_X9_momentOf l G ad hJ x (show (0 : Int) ≤ Int32.toInt x ∧ Int32.toInt x ≤ 4 by omega) y (-1)) ⟨by decide, by decide⟩ rfl (Nat.le_of_ble_eq_true rfl) ⟨Nat.zero_le _, Nat.zero_le _⟩ (fun r1 E2 hp3 => ?_)
  obtain ⟨hp3, hJ4⟩ := hp3
  refine v_istore (lv' := [(0, .ref (ad 68)), (1, .int x), (2, .int y), (3, .int z), (4, .int r1)]) C [1, 2, 3, 4, 0] dX9_turned_7 (by decide) rfl ?_
  refine v_iload C 4 dX9_turned_9 rfl ?_
  refine b_if_le C 33 dX9_turned_11 (by decide) (rfl : Int32.toInt r1 = _) (fun c6 => ?_) (fun c6 => ?_)
  · refine v_iload_n C 3 dX9_turned_33 rfl rfl ?_
    refine b_if_ne C 50 dX9_turned_34 (by decide) (rfl : Int32.toInt z = _) (fun c7 => ?_) (fun c7 => ?_)
    · refine v_aload_n C 0 dX9_turned_50 rfl rfl ?_
      refine v_iload_n C 1 dX9_turned_51 rfl rfl ?_
      refine v_iload_n C 2 dX9_turned_52 rfl rfl ?_
      obtain ⟨im12, hM12, hb12⟩ := hJ4.1.1
      have hq12 := hM12.b
      refine v_cVi C dX9_turned_53 lX9_239 mX9_lastAhead 68 (by omega) hM12.2.2.1 (by decide) rfl (ty_X9_lastAhead l G ad hJ4 x (show (0 : Int) ≤ Int32.toInt x ∧ Int32.toInt x ≤ 4 by omega) y) ⟨by decide, by decide⟩ rfl (Nat.le_of_ble_eq_true rfl) ⟨Nat.zero_le _, Nat.zero_le _⟩ (fun r8 E9 hp10 => ?_)
      obtain ⟨hp10, hJ11⟩ := hp10
      exact v_ret C dX9_turned_56 rfl rfl ⟨(ti_any r8), hJ11⟩
    · refine v_aload_n C 0 dX9_turned_37 rfl rfl ?_
      refine v_iload_n C 1 dX9_turned_38 rfl rfl ?_
      refine v_iload_n C 2 dX9_turned_39 rfl rfl ?_
      refine v_iconst (v := 1) C dX9_turned_40 (by decide) ?_
      refine v_iadd C dX9_turned_41 ?_
      refine v_top (fun x13 _ => ?_)
      refine v_ldc C dX9_turned_42 kX9_235 ?_
      obtain ⟨im18, hM18, hb18⟩ := hJ4.1.1
      have hq18 := hM18.b
      refine v_cVi C dX9_turned_44 lX9_236 mX9_firstFrom 68 (by omega) hM18.2.2.1 (by decide) rfl (ty_X9_firstFrom l G ad hJ4 x (show (0 : Int) ≤ Int32.toInt x ∧ Int32.toInt x ≤ 4 by omega) x13 2147483647) ⟨by decide, by decide⟩ rfl (Nat.le_of_ble_eq_true rfl) ⟨Nat.zero_le _, Nat.zero_le _⟩ (fun r14 E15 hp16 => ?_)
      obtain ⟨hp16, hJ17⟩ := hp16
      refine v_goto C 56 dX9_turned_47 (by decide) ?_
      exact v_ret C dX9_turned_56 rfl rfl ⟨(ti_any r14), hJ17⟩
  · refine v_aload_n C 0 dX9_turned_14 rfl rfl ?_
    refine v_iload_n C 1 dX9_turned_15 rfl rfl ?_
    refine v_iload_n C 2 dX9_turned_16 rfl rfl ?_
    refine v_iload_n C 3 dX9_turned_17 rfl rfl ?_
    refine b_if_ne C 25 dX9_turned_18 (by decide) (rfl : Int32.toInt z = _) (fun c19 => ?_) (fun c19 => ?_)
    · refine v_iload C 4 dX9_turned_25 rfl ?_
      refine v_iconst (v := 1) C dX9_turned_27 (by decide) ?_
      refine v_isub C dX9_turned_28 ?_
      have := ti_any r1
      refine v_top (fun x20 ex20 => ?_)
      have hx20 : x20.toInt = (r1.toInt - 1) := by rw [ex20]; exact ti_sub (rfl : Int32.toInt r1 = _) (show (1 : Int32).toInt = 1 by decide) (by omega) (by omega)
      obtain ⟨im25, hM25, hb25⟩ := hJ4.1.1
      have hq25 := hM25.b
      refine v_cVi C dX9_turned_29 lX9_191 mX9_momentOf 68 (by omega) hM25.2.2.1 (by decide) rfl (ty_X9_momentOf l G ad hJ4 x (show (0 : Int) ≤ Int32.toInt x ∧ Int32.toInt x ≤ 4 by omega) y x20) ⟨by decide, by decide⟩ rfl (Nat.le_of_ble_eq_true rfl) ⟨Nat.zero_le _, Nat.zero_le _⟩ (fun r21 E22 hp23 => ?_)
      obtain ⟨hp23, hJ24⟩ := hp23
      exact v_ret C dX9_turned_32 rfl rfl ⟨(ti_any r21), hJ24⟩
    · refine v_iconst (v := 0) C dX9_turned_21 (by decide) ?_
      refine v_goto C 29 dX9_turned_22 (by decide) ?_
      obtain ⟨im30, hM30, hb30⟩ := hJ4.1.1
      have hq30 := hM30.b
      refine v_cVi C dX9_turned_29 lX9_191 mX9_momentOf 68 (by omega) hM30.2.2.1 (by decide) rfl (ty_X9_momentOf l G ad hJ4 x (show (0 : Int) ≤ Int32.toInt x ∧ Int32.toInt x ≤ 4 by omega) y 0) ⟨by decide, by decide⟩ rfl (Nat.le_of_ble_eq_true rfl) ⟨Nat.zero_le _, Nat.zero_le _⟩ (fun r26 E27 hp28 => ?_)
      obtain ⟨hp28, hJ29⟩ := hp28
      exact v_ret C dX9_turned_32 rfl rfl ⟨(ti_any r26), hJ29⟩

set_option maxRecDepth 20000 in
theorem ty_X9_isTop (l : Launch) (G : Gl) (ad : Nat → Nat) {Z : (Nat → va_E) → Prop} {kn : Int} {n : Nat} {ic md : Nat → Int32} {bd : Nat → Int × Int} {E0 E : Nat → va_E} {h : Int} (hJ : JY l Z kn G ad n ic md (upB bd 35 (h, h)) PR E0 E) (hh : 0 ≤ h ∧ h ≤ 8) (x : Int32) : CtI l G yX9_isTop cX9_isTop 2 .boolean 0 0 (n) ad E [.ref (ad 68), .int x] (fun r E' => ((r = 1 ∧ 1 ≤ h) ∨ (r = 0 ∧ (0 : Int) ≤ h)) ∧ E = E') := by
  refine CtI.of (by decide) (Nat.le_of_ble_eq_true rfl) (fun X A C => ?_)
  refine v_sub (lv' := [(0, .ref (ad 68)), (1, .int x)]) [0, 1] rfl ?_
  have hn := hJ.hn
  have hz16 := upB_n16 (by decide) hJ.1.2.2.2.2
  refine v_aload_n C 0 dX9_isTop_0 rfl rfl ?_
  obtain ⟨im1, hM1, hb1⟩ := hJ.1.1
  have hq1 := hM1.b
  refine v_geti (v := im1 35) C 68 dX9_isTop_1 fX9_203 (by omega) hM1.2.2.1 rfl rfl ?_
  have him1_35 : (h : Int) ≤ (im1 35).toInt ∧ (im1 35).toInt ≤ h := hb1 35
  refine b_if_le C 26 dX9_isTop_4 (by decide) (rfl : Int32.toInt (im1 35) = _) (fun c2 => ?_) (fun c2 => ?_)
  · refine v_iconst (v := 0) C dX9_isTop_26 (by decide) ?_
    exact v_ret C dX9_isTop_27 rfl rfl ⟨Or.inr ⟨rfl, by omega⟩, rfl⟩
  · refine v_aload_n C 0 dX9_isTop_7 rfl rfl ?_
    refine v_getr C 68 dX9_isTop_8 fX9_97 (by omega) hM1.2.2.1 rfl rfl ?_
    refine v_aload_n C 0 dX9_isTop_11 rfl rfl ?_
    refine v_geti (v := im1 35) C 68 dX9_isTop_12 fX9_203 (by omega) hM1.2.2.1 rfl rfl ?_
    refine v_iconst (v := 1) C dX9_isTop_15 (by decide) ?_
    refine v_isub C dX9_isTop_16 ?_
    refine v_top (fun x3 ex3 => ?_)
    have hx3 : x3.toInt = ((im1 35).toInt - 1) := by rw [ex3]; exact ti_sub (rfl : Int32.toInt (im1 35) = _) (show (1 : Int32).toInt = 1 by decide) (by omega) (by omega)
    obtain ⟨f5, hE5, hb5⟩ := hJ.1.2.1.getA (b := 92) (by omega) rfl
    refine v_ald (v := f5 (((im1 35).toInt - 1)).toNat) C 92 dX9_isTop_17 (by omega) hE5 (ti_in hx3 (by omega) (by omega)) (by rw [ti_cl hx3]) ?_
    refine v_top (fun x6 _ => ?_)
    refine v_iload_n C 1 dX9_isTop_18 rfl rfl ?_
    refine b_icmp_ne C 26 dX9_isTop_19 (by decide) (rfl : Int32.toInt x6 = _) (rfl : Int32.toInt x = _) (fun c7 => ?_) (fun c7 => ?_)
    · refine v_iconst (v := 0) C dX9_isTop_26 (by decide) ?_
      exact v_ret C dX9_isTop_27 rfl rfl ⟨Or.inr ⟨rfl, by omega⟩, rfl⟩
    · refine v_iconst (v := 1) C dX9_isTop_22 (by decide) ?_
      refine v_goto C 27 dX9_isTop_23 (by decide) ?_
      exact v_ret C dX9_isTop_27 rfl rfl ⟨Or.inl ⟨rfl, by omega⟩, rfl⟩

set_option maxRecDepth 20000 in
theorem ty_X9_laid (l : Launch) (G : Gl) (ad : Nat → Nat) {Z : (Nat → va_E) → Prop} {kn : Int} {n : Nat} {ic md : Nat → Int32} {bd : Nat → Int × Int} {E0 E : Nat → va_E} {h : Int} (hJ : JY l Z kn G ad n ic md (upB bd 35 (h, h)) PR E0 E) (hh : 0 ≤ h ∧ h ≤ 8) (x : Int32) : CtI l G yX9_laid cX9_laid 2 .boolean 0 0 (n) ad E [.ref (ad 68), .int x] (fun r E' => (r = 1 ∧ h + 1 ≤ 8 ∧ JY l Z kn G ad n ic md (upB bd 35 (h + 1, h + 1)) PR E0 E') ∨ (r = 0 ∧ JY l Z kn G ad n ic md (upB bd 35 (h, h)) PR E0 E')) := by
  refine CtI.of (by decide) (Nat.le_of_ble_eq_true rfl) (fun X A C => ?_)
  refine v_sub (lv' := [(0, .ref (ad 68)), (1, .int x)]) [0, 1] rfl ?_
  have hn := hJ.hn
  have hz16 := upB_n16 (by decide) hJ.1.2.2.2.2
  refine v_aload_n C 0 dX9_laid_0 rfl rfl ?_
  obtain ⟨im1, hM1, hb1⟩ := hJ.1.1
  have hq1 := hM1.b
  refine v_geti (v := im1 35) C 68 dX9_laid_1 fX9_203 (by omega) hM1.2.2.1 rfl rfl ?_
  have him1_35 : (h : Int) ≤ (im1 35).toInt ∧ (im1 35).toInt ≤ h := hb1 35
  refine v_bipush (v := 8) C dX9_laid_4 (by decide) ?_
  refine b_icmp_ne C 11 dX9_laid_6 (by decide) (rfl : Int32.toInt (im1 35) = _) (show (8 : Int32).toInt = 8 by decide) (fun c2 => ?_) (fun c2 => ?_)
  · refine v_aload_n C 0 dX9_laid_11 rfl rfl ?_
    refine v_getr C 68 dX9_laid_12 fX9_97 (by omega) hM1.2.2.1 rfl rfl ?_
    refine v_aload_n C 0 dX9_laid_15 rfl rfl ?_
    refine v_geti (v := im1 35) C 68 dX9_laid_16 fX9_203 (by omega) hM1.2.2.1 rfl rfl ?_
    refine v_iload_n C 1 dX9_laid_19 rfl rfl ?_
    obtain ⟨f4, hE4, hb4⟩ := hJ.1.2.1.getA (b := 92) (by omega) rfl
    refine v_ast C 92 dX9_laid_20 (by omega) hE4 (ti_in (rfl : Int32.toInt (im1 35) = _) (by omega) (by omega)) (fun E5 hE5_92 oE5 => ?_)
    rw [ti_cl (rfl : Int32.toInt (im1 35) = _)] at hE5_92
    have hE5_68 := (oE5 68 (by decide)).trans hM1.2.2.1
    have hJ6 := hJ.with (hJ.1.2.1.setA rfl (by unfold PR; omega) hb4 (ti_any x) hE5_92 oE5) (oE5 68 (by decide)) (oE5 69 (by decide)) (oE5 70 (by decide)) (fun j _ _ => oE5 j (by omega))
    have hM7 := hM1.of (oE5 68 (by decide)) (oE5 69 (by decide)) (oE5 70 (by decide))
    refine v_aload_n C 0 dX9_laid_21 rfl rfl ?_
    refine v_dup C dX9_laid_22 rfl ?_
    refine v_geti (v := im1 35) C 68 dX9_laid_23 fX9_203 (by omega) hM7.2.2.1 rfl rfl ?_
    refine v_iconst (v := 1) C dX9_laid_26 (by decide) ?_
    refine v_iadd C dX9_laid_27 ?_
    refine v_top (fun x8 ex8 => ?_)
    have hx8 : x8.toInt = ((im1 35).toInt + 1) := by rw [ex8]; exact ti_add (rfl : Int32.toInt (im1 35) = _) (show (1 : Int32).toInt = 1 by decide) (by omega) (by omega)
    refine v_puti C 68 dX9_laid_28 fX9_203 (by omega) hM7.2.2.1 rfl rfl rfl rfl (fun E9 hE9_68 oE9 => ?_)
    obtain ⟨hJ10, hM11, hb12⟩ := hJ6.putB hM7 hb1 (k := 35) (v := x8) (by decide) (by unfold PR; omega) hE9_68 oE9
    refine v_iconst (v := 1) C dX9_laid_31 (by decide) ?_
    exact v_ret C dX9_laid_32 rfl rfl (Or.inl ⟨rfl, by omega, hJ10.toB (by decide) (by omega) (by omega)⟩)
  · refine v_iconst (v := 0) C dX9_laid_9 (by decide) ?_
    exact v_ret C dX9_laid_10 rfl rfl (Or.inr ⟨rfl, hJ.toB (by decide) (by omega) (by omega)⟩)

set_option maxRecDepth 20000 in
theorem ty_X9_became (l : Launch) (G : Gl) (ad : Nat → Nat) {Z : (Nat → va_E) → Prop} {kn : Int} {n : Nat} {ic md : Nat → Int32} {bd : Nat → Int × Int} {E0 E : Nat → va_E} {h : Int} (hJ : JY l Z kn G ad n ic md (upB bd 35 (h, h)) PR E0 E) (hh : 0 ≤ h ∧ h ≤ 8) (x : Int32) (y : Int32) : CtI l G yX9_became cX9_became 3 .boolean 1 21 (n) ad E [.ref (ad 68), .int x, .int y] (fun r E' => (r = 1 ∧ 1 ≤ h ∧ JY l Z kn G ad n ic md (upB bd 35 (h, h)) PR E0 E') ∨ (r = 0 ∧ JY l Z kn G ad n ic md (upB bd 35 (h, h)) PR E0 E')) := by
  refine CtI.of (by decide) (Nat.le_of_ble_eq_true rfl) (fun X A C => ?_)
  refine v_sub (lv' := [(0, .ref (ad 68)), (1, .int x), (2, .int y)]) [0, 1, 2] rfl ?_
  have hn := hJ.hn
  have hz16 := upB_n16 (by decide) hJ.1.2.2.2.2
  refine v_aload_n C 0 dX9_became_0 rfl rfl ?_
  refine v_iload_n C 1 dX9_became_1 rfl rfl ?_
  obtain ⟨im3, hM3, hb3⟩ := hJ.1.1
  have hq3 := hM3.b
  refine v_cVp C dX9_became_2 lX9_213 mX9_isTop 68 (by omega) hM3.2.2.1 (by decide) rfl (ty_X9_isTop l G ad hJ (show (0 : Int) ≤ h ∧ h ≤ 8 by omega) x) ⟨by decide, by decide⟩ rfl (Nat.le_of_ble_eq_true rfl) ⟨Nat.zero_le _, Nat.zero_le _⟩ (fun r1 hp2 => ?_)
  rcases hp2 with ⟨rfl, hp2⟩ | ⟨rfl, hp2⟩
  · refine b_if_ne C 10 dX9_became_5 (by decide) (show (1 : Int32).toInt = 1 by decide) (fun c4 => ?_) (fun c4 => absurd c4 (by decide))
    refine v_aload_n C 0 dX9_became_10 rfl rfl ?_
    refine v_getr C 68 dX9_became_11 fX9_97 (by omega) hM3.2.2.1 rfl rfl ?_
    refine v_aload_n C 0 dX9_became_14 rfl rfl ?_
    refine v_geti (v := im3 35) C 68 dX9_became_15 fX9_203 (by omega) hM3.2.2.1 rfl rfl ?_
    have him3_35 : (h : Int) ≤ (im3 35).toInt ∧ (im3 35).toInt ≤ h := hb3 35
    refine v_iconst (v := 1) C dX9_became_18 (by decide) ?_
    refine v_isub C dX9_became_19 ?_
    refine v_top (fun x5 ex5 => ?_)
    have hx5 : x5.toInt = ((im3 35).toInt - 1) := by rw [ex5]; exact ti_sub (rfl : Int32.toInt (im3 35) = _) (show (1 : Int32).toInt = 1 by decide) (by omega) (by omega)
    refine v_iload_n C 2 dX9_became_20 rfl rfl ?_
    obtain ⟨f7, hE7, hb7⟩ := hJ.1.2.1.getA (b := 92) (by omega) rfl
    refine v_ast C 92 dX9_became_21 (by omega) hE7 (ti_in hx5 (by omega) (by omega)) (fun E8 hE8_92 oE8 => ?_)
    rw [ti_cl hx5] at hE8_92
    have hE8_68 := (oE8 68 (by decide)).trans hM3.2.2.1
    have hJ9 := hJ.with (hJ.1.2.1.setA rfl (by unfold PR; omega) hb7 (ti_any y) hE8_92 oE8) (oE8 68 (by decide)) (oE8 69 (by decide)) (oE8 70 (by decide)) (fun j _ _ => oE8 j (by omega))
    have hM10 := hM3.of (oE8 68 (by decide)) (oE8 69 (by decide)) (oE8 70 (by decide))
    refine v_iconst (v := 1) C dX9_became_22 (by decide) ?_
    exact v_ret C dX9_became_23 rfl rfl (Or.inl ⟨rfl, by omega, hJ9.toB (by decide) (by omega) (by omega)⟩)
  · refine b_if_ne C 10 dX9_became_5 (by decide) (show (0 : Int32).toInt = 0 by decide) (fun c11 => absurd c11 (by decide)) (fun c11 => ?_)
    refine v_iconst (v := 0) C dX9_became_8 (by decide) ?_
    exact v_ret C dX9_became_9 rfl rfl (Or.inr ⟨rfl, hJ.toB (by decide) (by omega) (by omega)⟩)

set_option maxRecDepth 20000 in
theorem ty_X9_fits (l : Launch) (G : Gl) (ad : Nat → Nat) {Z : (Nat → va_E) → Prop} {kn : Int} {n : Nat} {ic md : Nat → Int32} {bd : Nat → Int × Int} {E0 E : Nat → va_E} {h : Int} (hJ : JY l Z kn G ad n ic md (upB bd 35 (h, h)) PR E0 E) (hh : 0 ≤ h ∧ h ≤ 8) (x : Int32) : CtI l G yX9_fits cX9_fits 3 .boolean 2 43 (n) ad E [.ref (ad 68), .int x] (fun r E' => (r = 1 ∧ (ned x.toInt ≤ h ∧ h + dlt x.toInt ≤ 8) ∧ JY l Z kn G ad n ic md (upB bd 35 (h + dlt x.toInt, h + dlt x.toInt)) PR E0 E') ∨ (r = 0 ∧ JY l Z kn G ad n ic md (upB bd 35 (0, 8)) PR E0 E')) := by
  refine CtI.of (by decide) (Nat.le_of_ble_eq_true rfl) (fun X A C => ?_)
  refine v_sub (lv' := [(0, .ref (ad 68)), (1, .int x)]) [0, 1] rfl ?_
  have hn := hJ.hn
  have hz16 := upB_n16 (by decide) hJ.1.2.2.2.2
  refine v_iload_n C 1 dX9_fits_0 rfl rfl ?_
  have q1v : Int32.toInt x = x.toInt := (rfl : Int32.toInt x = _)
  rcases (show x.toInt = 0 ∨ x.toInt = 1 ∨ x.toInt = 2 ∨ x.toInt = 3 ∨ x.toInt = 4 ∨ x.toInt = 5 ∨ x.toInt = 6 ∨ x.toInt = 7 ∨ x.toInt = 8 ∨ x.toInt = 9 ∨ x.toInt = 10 ∨ (x.toInt < 0 ∨ 10 < x.toInt) by omega) with q1 | q1 | q1 | q1 | q1 | q1 | q1 | q1 | q1 | q1 | q1 | q1
  · refine v_tableIn (off := 59) C 60 dX9_fits_1 (by omega) (by omega) (by rw [q1v, q1]; rfl) (by decide) ?_
    have hnn := ned_0 (x := x.toInt) (by omega)
    have hdd := dlt_1 (x := x.toInt) (by omega)
    refine v_aload_n C 0 dX9_fits_60 rfl rfl ?_
    refine v_iconst (v := 0) C dX9_fits_61 (by decide) ?_
    obtain ⟨im6, hM6, hb6⟩ := hJ.1.1
    have hq6 := hM6.b
    refine v_cVi C dX9_fits_62 lX9_206 mX9_laid 68 (by omega) hM6.2.2.1 (by decide) rfl (ty_X9_laid l G ad hJ (show (0 : Int) ≤ h ∧ h ≤ 8 by omega) 0) ⟨by decide, by decide⟩ rfl (Nat.le_of_ble_eq_true rfl) ⟨Nat.zero_le _, Nat.zero_le _⟩ (fun r2 E3 hp4 => ?_)
    rcases hp4 with ⟨rfl, hp4, hJ5⟩ | ⟨rfl, hJ5⟩
    · exact v_ret C dX9_fits_65 rfl rfl (Or.inl ⟨rfl, ⟨by omega, by omega⟩, hJ5.toB (by decide) (by omega) (by omega)⟩)
    · exact v_ret C dX9_fits_65 rfl rfl (Or.inr ⟨rfl, hJ5.toB (by decide) (by omega) (by omega)⟩)
  · refine v_tableIn (off := 65) C 66 dX9_fits_1 (by omega) (by omega) (by rw [q1v, q1]; rfl) (by decide) ?_
    have hnn := ned_1 (x := x.toInt) (by omega)
    have hdd := dlt_0 (x := x.toInt) (by omega)
    refine v_aload_n C 0 dX9_fits_66 rfl rfl ?_
    refine v_iconst (v := 0) C dX9_fits_67 (by decide) ?_
    refine v_iconst (v := 1) C dX9_fits_68 (by decide) ?_
    obtain ⟨im11, hM11, hb11⟩ := hJ.1.1
    have hq11 := hM11.b
    refine v_cVi C dX9_fits_69 lX9_209 mX9_became 68 (by omega) hM11.2.2.1 (by decide) rfl (ty_X9_became l G ad hJ (show (0 : Int) ≤ h ∧ h ≤ 8 by omega) 0 1) ⟨by decide, by decide⟩ rfl (Nat.le_of_ble_eq_true rfl) ⟨Nat.zero_le _, Nat.zero_le _⟩ (fun r7 E8 hp9 => ?_)
    rcases hp9 with ⟨rfl, hp9, hJ10⟩ | ⟨rfl, hJ10⟩
    · exact v_ret C dX9_fits_72 rfl rfl (Or.inl ⟨rfl, ⟨by omega, by omega⟩, hJ10.toB (by decide) (by omega) (by omega)⟩)
    · exact v_ret C dX9_fits_72 rfl rfl (Or.inr ⟨rfl, hJ10.toB (by decide) (by omega) (by omega)⟩)
  · refine v_tableIn (off := 72) C 73 dX9_fits_1 (by omega) (by omega) (by rw [q1v, q1]; rfl) (by decide) ?_
    have hnn := ned_1 (x := x.toInt) (by omega)
    have hdd := dlt_0 (x := x.toInt) (by omega)
    refine v_aload_n C 0 dX9_fits_73 rfl rfl ?_
    refine v_iconst (v := 1) C dX9_fits_74 (by decide) ?_
    refine v_iconst (v := 2) C dX9_fits_75 (by decide) ?_
    obtain ⟨im16, hM16, hb16⟩ := hJ.1.1
    have hq16 := hM16.b
    refine v_cVi C dX9_fits_76 lX9_209 mX9_became 68 (by omega) hM16.2.2.1 (by decide) rfl (ty_X9_became l G ad hJ (show (0 : Int) ≤ h ∧ h ≤ 8 by omega) 1 2) ⟨by decide, by decide⟩ rfl (Nat.le_of_ble_eq_true rfl) ⟨Nat.zero_le _, Nat.zero_le _⟩ (fun r12 E13 hp14 => ?_)
    rcases hp14 with ⟨rfl, hp14, hJ15⟩ | ⟨rfl, hJ15⟩
    · exact v_ret C dX9_fits_79 rfl rfl (Or.inl ⟨rfl, ⟨by omega, by omega⟩, hJ15.toB (by decide) (by omega) (by omega)⟩)
    · exact v_ret C dX9_fits_79 rfl rfl (Or.inr ⟨rfl, hJ15.toB (by decide) (by omega) (by omega)⟩)
  · refine v_tableIn (off := 79) C 80 dX9_fits_1 (by omega) (by omega) (by rw [q1v, q1]; rfl) (by decide) ?_
    have hnn := ned_1 (x := x.toInt) (by omega)
    have hdd := dlt_0 (x := x.toInt) (by omega)
    refine v_aload_n C 0 dX9_fits_80 rfl rfl ?_
    refine v_iconst (v := 2) C dX9_fits_81 (by decide) ?_
    refine v_iconst (v := 1) C dX9_fits_82 (by decide) ?_
    obtain ⟨im21, hM21, hb21⟩ := hJ.1.1
    have hq21 := hM21.b
    refine v_cVi C dX9_fits_83 lX9_209 mX9_became 68 (by omega) hM21.2.2.1 (by decide) rfl (ty_X9_became l G ad hJ (show (0 : Int) ≤ h ∧ h ≤ 8 by omega) 2 1) ⟨by decide, by decide⟩ rfl (Nat.le_of_ble_eq_true rfl) ⟨Nat.zero_le _, Nat.zero_le _⟩ (fun r17 E18 hp19 => ?_)
    rcases hp19 with ⟨rfl, hp19, hJ20⟩ | ⟨rfl, hJ20⟩
    · exact v_ret C dX9_fits_86 rfl rfl (Or.inl ⟨rfl, ⟨by omega, by omega⟩, hJ20.toB (by decide) (by omega) (by omega)⟩)
    · exact v_ret C dX9_fits_86 rfl rfl (Or.inr ⟨rfl, hJ20.toB (by decide) (by omega) (by omega)⟩)
  · refine v_tableIn (off := 86) C 87 dX9_fits_1 (by omega) (by omega) (by rw [q1v, q1]; rfl) (by decide) ?_
    have hnn := ned_1 (x := x.toInt) (by omega)
    have hdd := dlt_0 (x := x.toInt) (by omega)
    refine v_aload_n C 0 dX9_fits_87 rfl rfl ?_
    refine v_iconst (v := 1) C dX9_fits_88 (by decide) ?_
    refine v_iconst (v := 0) C dX9_fits_89 (by decide) ?_
    obtain ⟨im26, hM26, hb26⟩ := hJ.1.1
    have hq26 := hM26.b
    refine v_cVi C dX9_fits_90 lX9_209 mX9_became 68 (by omega) hM26.2.2.1 (by decide) rfl (ty_X9_became l G ad hJ (show (0 : Int) ≤ h ∧ h ≤ 8 by omega) 1 0) ⟨by decide, by decide⟩ rfl (Nat.le_of_ble_eq_true rfl) ⟨Nat.zero_le _, Nat.zero_le _⟩ (fun r22 E23 hp24 => ?_)
    rcases hp24 with ⟨rfl, hp24, hJ25⟩ | ⟨rfl, hJ25⟩
    · exact v_ret C dX9_fits_93 rfl rfl (Or.inl ⟨rfl, ⟨by omega, by omega⟩, hJ25.toB (by decide) (by omega) (by omega)⟩)
    · exact v_ret C dX9_fits_93 rfl rfl (Or.inr ⟨rfl, hJ25.toB (by decide) (by omega) (by omega)⟩)
  · refine v_tableIn (off := 93) C 94 dX9_fits_1 (by omega) (by omega) (by rw [q1v, q1]; rfl) (by decide) ?_
    have hnn := ned_1 (x := x.toInt) (by omega)
    have hdd := dlt_0 (x := x.toInt) (by omega)
    refine v_aload_n C 0 dX9_fits_94 rfl rfl ?_
    refine v_iconst (v := 0) C dX9_fits_95 (by decide) ?_
    obtain ⟨im29, hM29, hb29⟩ := hJ.1.1
    have hq29 := hM29.b
    refine v_cVp C dX9_fits_96 lX9_213 mX9_isTop 68 (by omega) hM29.2.2.1 (by decide) rfl (ty_X9_isTop l G ad hJ (show (0 : Int) ≤ h ∧ h ≤ 8 by omega) 0) ⟨by decide, by decide⟩ rfl (Nat.le_of_ble_eq_true rfl) ⟨Nat.zero_le _, Nat.zero_le _⟩ (fun r27 hp28 => ?_)
    rcases hp28 with ⟨rfl, hp28⟩ | ⟨rfl, hp28⟩
    · refine b_if_ne C 110 dX9_fits_99 (by decide) (show (1 : Int32).toInt = 1 by decide) (fun c30 => ?_) (fun c30 => absurd c30 (by decide))
      refine v_iconst (v := 1) C dX9_fits_110 (by decide) ?_
      refine v_goto C 115 dX9_fits_111 (by decide) ?_
      exact v_ret C dX9_fits_115 rfl rfl (Or.inl ⟨rfl, ⟨by omega, by omega⟩, hJ.toB (by decide) (by omega) (by omega)⟩)
    · refine b_if_ne C 110 dX9_fits_99 (by decide) (show (0 : Int32).toInt = 0 by decide) (fun c31 => absurd c31 (by decide)) (fun c31 => ?_)
      refine v_aload_n C 0 dX9_fits_102 rfl rfl ?_
      refine v_iconst (v := 1) C dX9_fits_103 (by decide) ?_
      refine v_cVp C dX9_fits_104 lX9_213 mX9_isTop 68 (by omega) hM29.2.2.1 (by decide) rfl (ty_X9_isTop l G ad hJ (show (0 : Int) ≤ h ∧ h ≤ 8 by omega) 1) ⟨by decide, by decide⟩ rfl (Nat.le_of_ble_eq_true rfl) ⟨Nat.zero_le _, Nat.zero_le _⟩ (fun r32 hp33 => ?_)
      rcases hp33 with ⟨rfl, hp33⟩ | ⟨rfl, hp33⟩
      · refine b_if_eq C 114 dX9_fits_107 (by decide) (show (1 : Int32).toInt = 1 by decide) (fun c34 => absurd c34 (by decide)) (fun c34 => ?_)
        refine v_iconst (v := 1) C dX9_fits_110 (by decide) ?_
        refine v_goto C 115 dX9_fits_111 (by decide) ?_
        exact v_ret C dX9_fits_115 rfl rfl (Or.inl ⟨rfl, ⟨by omega, by omega⟩, hJ.toB (by decide) (by omega) (by omega)⟩)
      · refine b_if_eq C 114 dX9_fits_107 (by decide) (show (0 : Int32).toInt = 0 by decide) (fun c35 => ?_) (fun c35 => absurd c35 (by decide))
        refine v_iconst (v := 0) C dX9_fits_114 (by decide) ?_
        exact v_ret C dX9_fits_115 rfl rfl (Or.inr ⟨rfl, hJ.toB (by decide) (by omega) (by omega)⟩)
  · refine v_tableIn (off := 115) C 116 dX9_fits_1 (by omega) (by omega) (by rw [q1v, q1]; rfl) (by decide) ?_
    have hnn := ned_1 (x := x.toInt) (by omega)
    have hdd := dlt_0 (x := x.toInt) (by omega)
    refine v_aload_n C 0 dX9_fits_116 rfl rfl ?_
    refine v_iconst (v := 2) C dX9_fits_117 (by decide) ?_
    obtain ⟨im38, hM38, hb38⟩ := hJ.1.1
    have hq38 := hM38.b
    refine v_cVp C dX9_fits_118 lX9_213 mX9_isTop 68 (by omega) hM38.2.2.1 (by decide) rfl (ty_X9_isTop l G ad hJ (show (0 : Int) ≤ h ∧ h ≤ 8 by omega) 2) ⟨by decide, by decide⟩ rfl (Nat.le_of_ble_eq_true rfl) ⟨Nat.zero_le _, Nat.zero_le _⟩ (fun r36 hp37 => ?_)
    rcases hp37 with ⟨rfl, hp37⟩ | ⟨rfl, hp37⟩
    · refine b_if_ne C 132 dX9_fits_121 (by decide) (show (1 : Int32).toInt = 1 by decide) (fun c39 => ?_) (fun c39 => absurd c39 (by decide))
      refine v_iconst (v := 1) C dX9_fits_132 (by decide) ?_
      refine v_goto C 137 dX9_fits_133 (by decide) ?_
      exact v_ret C dX9_fits_137 rfl rfl (Or.inl ⟨rfl, ⟨by omega, by omega⟩, hJ.toB (by decide) (by omega) (by omega)⟩)
    · refine b_if_ne C 132 dX9_fits_121 (by decide) (show (0 : Int32).toInt = 0 by decide) (fun c40 => absurd c40 (by decide)) (fun c40 => ?_)
      refine v_aload_n C 0 dX9_fits_124 rfl rfl ?_
      refine v_iconst (v := 1) C dX9_fits_125 (by decide) ?_
      refine v_cVp C dX9_fits_126 lX9_213 mX9_isTop 68 (by omega) hM38.2.2.1 (by decide) rfl (ty_X9_isTop l G ad hJ (show (0 : Int) ≤ h ∧ h ≤ 8 by omega) 1) ⟨by decide, by decide⟩ rfl (Nat.le_of_ble_eq_true rfl) ⟨Nat.zero_le _, Nat.zero_le _⟩ (fun r41 hp42 => ?_)
      rcases hp42 with ⟨rfl, hp42⟩ | ⟨rfl, hp42⟩
      · refine b_if_eq C 136 dX9_fits_129 (by decide) (show (1 : Int32).toInt = 1 by decide) (fun c43 => absurd c43 (by decide)) (fun c43 => ?_)
        refine v_iconst (v := 1) C dX9_fits_132 (by decide) ?_
        refine v_goto C 137 dX9_fits_133 (by decide) ?_
        exact v_ret C dX9_fits_137 rfl rfl (Or.inl ⟨rfl, ⟨by omega, by omega⟩, hJ.toB (by decide) (by omega) (by omega)⟩)
      · refine b_if_eq C 136 dX9_fits_129 (by decide) (show (0 : Int32).toInt = 0 by decide) (fun c44 => ?_) (fun c44 => absurd c44 (by decide))
        refine v_iconst (v := 0) C dX9_fits_136 (by decide) ?_
        exact v_ret C dX9_fits_137 rfl rfl (Or.inr ⟨rfl, hJ.toB (by decide) (by omega) (by omega)⟩)
  · refine v_tableIn (off := 137) C 138 dX9_fits_1 (by omega) (by omega) (by rw [q1v, q1]; rfl) (by decide) ?_
    have hnn := ned_1 (x := x.toInt) (by omega)
    have hdd := dlt_0 (x := x.toInt) (by omega)
    refine v_aload_n C 0 dX9_fits_138 rfl rfl ?_
    refine v_iconst (v := 2) C dX9_fits_139 (by decide) ?_
    obtain ⟨im47, hM47, hb47⟩ := hJ.1.1
    have hq47 := hM47.b
    refine v_cVp C dX9_fits_140 lX9_213 mX9_isTop 68 (by omega) hM47.2.2.1 (by decide) rfl (ty_X9_isTop l G ad hJ (show (0 : Int) ≤ h ∧ h ≤ 8 by omega) 2) ⟨by decide, by decide⟩ rfl (Nat.le_of_ble_eq_true rfl) ⟨Nat.zero_le _, Nat.zero_le _⟩ (fun r45 hp46 => ?_)
    rcases hp46 with ⟨rfl, hp46⟩ | ⟨rfl, hp46⟩
    · exact v_ret C dX9_fits_143 rfl rfl (Or.inl ⟨rfl, ⟨by omega, by omega⟩, hJ.toB (by decide) (by omega) (by omega)⟩)
    · exact v_ret C dX9_fits_143 rfl rfl (Or.inr ⟨rfl, hJ.toB (by decide) (by omega) (by omega)⟩)
  · refine v_tableIn (off := 143) C 144 dX9_fits_1 (by omega) (by omega) (by rw [q1v, q1]; rfl) (by decide) ?_
    have hnn := ned_2 (x := x.toInt) (by omega)
    have hdd := dlt_m (x := x.toInt) (by omega)
    refine v_aload_n C 0 dX9_fits_144 rfl rfl ?_
    obtain ⟨im48, hM48, hb48⟩ := hJ.1.1
    have hq48 := hM48.b
    refine v_geti (v := im48 35) C 68 dX9_fits_145 fX9_203 (by omega) hM48.2.2.1 rfl rfl ?_
    have him48_35 : (h : Int) ≤ (im48 35).toInt ∧ (im48 35).toInt ≤ h := hb48 35
    refine v_iconst (v := 2) C dX9_fits_148 (by decide) ?_
    refine b_icmp_lt C 185 dX9_fits_149 (by decide) (rfl : Int32.toInt (im48 35) = _) (show (2 : Int32).toInt = 2 by decide) (fun c49 => ?_) (fun c49 => ?_)
    · refine v_iconst (v := 0) C dX9_fits_185 (by decide) ?_
      exact v_ret C dX9_fits_186 rfl rfl (Or.inr ⟨rfl, hJ.toB (by decide) (by omega) (by omega)⟩)
    · refine v_aload_n C 0 dX9_fits_152 rfl rfl ?_
      refine v_getr C 68 dX9_fits_153 fX9_97 (by omega) hM48.2.2.1 rfl rfl ?_
      refine v_aload_n C 0 dX9_fits_156 rfl rfl ?_
      refine v_geti (v := im48 35) C 68 dX9_fits_157 fX9_203 (by omega) hM48.2.2.1 rfl rfl ?_
      refine v_iconst (v := 1) C dX9_fits_160 (by decide) ?_
      refine v_isub C dX9_fits_161 ?_
      refine v_top (fun x50 ex50 => ?_)
      have hx50 : x50.toInt = ((im48 35).toInt - 1) := by rw [ex50]; exact ti_sub (rfl : Int32.toInt (im48 35) = _) (show (1 : Int32).toInt = 1 by decide) (by omega) (by omega)
      obtain ⟨f52, hE52, hb52⟩ := hJ.1.2.1.getA (b := 92) (by omega) rfl
      refine v_ald (v := f52 (((im48 35).toInt - 1)).toNat) C 92 dX9_fits_162 (by omega) hE52 (ti_in hx50 (by omega) (by omega)) (by rw [ti_cl hx50]) ?_
      refine v_top (fun x53 _ => ?_)
      refine v_aload_n C 0 dX9_fits_163 rfl rfl ?_
      refine v_getr C 68 dX9_fits_164 fX9_97 (by omega) hM48.2.2.1 rfl rfl ?_
      refine v_aload_n C 0 dX9_fits_167 rfl rfl ?_
      refine v_geti (v := im48 35) C 68 dX9_fits_168 fX9_203 (by omega) hM48.2.2.1 rfl rfl ?_
      refine v_iconst (v := 2) C dX9_fits_171 (by decide) ?_
      refine v_isub C dX9_fits_172 ?_
      refine v_top (fun x54 ex54 => ?_)
      have hx54 : x54.toInt = ((im48 35).toInt - 2) := by rw [ex54]; exact ti_sub (rfl : Int32.toInt (im48 35) = _) (show (2 : Int32).toInt = 2 by decide) (by omega) (by omega)
      refine v_ald (v := f52 (((im48 35).toInt - 2)).toNat) C 92 dX9_fits_173 (by omega) hE52 (ti_in hx54 (by omega) (by omega)) (by rw [ti_cl hx54]) ?_
      refine v_top (fun x55 _ => ?_)
      refine b_icmp_ne C 185 dX9_fits_174 (by decide) (rfl : Int32.toInt x53 = _) (rfl : Int32.toInt x55 = _) (fun c56 => ?_) (fun c56 => ?_)
      · refine v_iconst (v := 0) C dX9_fits_185 (by decide) ?_
        exact v_ret C dX9_fits_186 rfl rfl (Or.inr ⟨rfl, hJ.toB (by decide) (by omega) (by omega)⟩)
      · refine v_aload_n C 0 dX9_fits_177 rfl rfl ?_
        refine v_iconst (v := 3) C dX9_fits_178 (by decide) ?_
        refine v_cVp C dX9_fits_179 lX9_213 mX9_isTop 68 (by omega) hM48.2.2.1 (by decide) rfl (ty_X9_isTop l G ad hJ (show (0 : Int) ≤ h ∧ h ≤ 8 by omega) 3) ⟨by decide, by decide⟩ rfl (Nat.le_of_ble_eq_true rfl) ⟨Nat.zero_le _, Nat.zero_le _⟩ (fun r57 hp58 => ?_)
        rcases hp58 with ⟨rfl, hp58⟩ | ⟨rfl, hp58⟩
        · refine b_if_eq C 187 dX9_fits_182 (by decide) (show (1 : Int32).toInt = 1 by decide) (fun c59 => absurd c59 (by decide)) (fun c59 => ?_)
          refine v_iconst (v := 0) C dX9_fits_185 (by decide) ?_
          exact v_ret C dX9_fits_186 rfl rfl (Or.inr ⟨rfl, hJ.toB (by decide) (by omega) (by omega)⟩)
        · refine b_if_eq C 187 dX9_fits_182 (by decide) (show (0 : Int32).toInt = 0 by decide) (fun c60 => ?_) (fun c60 => absurd c60 (by decide))
          refine v_aload_n C 0 dX9_fits_187 rfl rfl ?_
          refine v_dup C dX9_fits_188 rfl ?_
          refine v_geti (v := im48 35) C 68 dX9_fits_189 fX9_203 (by omega) hM48.2.2.1 rfl rfl ?_
          refine v_iconst (v := 1) C dX9_fits_192 (by decide) ?_
          refine v_isub C dX9_fits_193 ?_
          refine v_top (fun x61 ex61 => ?_)
          have hx61 : x61.toInt = ((im48 35).toInt - 1) := by rw [ex61]; exact ti_sub (rfl : Int32.toInt (im48 35) = _) (show (1 : Int32).toInt = 1 by decide) (by omega) (by omega)
          refine v_puti C 68 dX9_fits_194 fX9_203 (by omega) hM48.2.2.1 rfl rfl rfl rfl (fun E62 hE62_68 oE62 => ?_)
          have hE62_92 := (oE62 92 (by decide)).trans hE52
          obtain ⟨hJ63, hM64, hb65⟩ := hJ.putB hM48 hb48 (k := 35) (v := x61) (by decide) (by unfold PR; omega) hE62_68 oE62
          refine v_aload_n C 0 dX9_fits_197 rfl rfl ?_
          refine v_getr C 68 dX9_fits_198 fX9_97 (by omega) hE62_68 rfl rfl ?_
          refine v_aload_n C 0 dX9_fits_201 rfl rfl ?_
          refine v_geti (v := x61) C 68 dX9_fits_202 fX9_203 (by omega) hE62_68 rfl rfl ?_
          refine v_iconst (v := 1) C dX9_fits_205 (by decide) ?_
          refine v_isub C dX9_fits_206 ?_
          refine v_top (fun x66 ex66 => ?_)
          have hx66 : x66.toInt = (((im48 35).toInt - 1) - 1) := by rw [ex66]; exact ti_sub hx61 (show (1 : Int32).toInt = 1 by decide) (by omega) (by omega)
          refine v_iconst (v := 3) C dX9_fits_207 (by decide) ?_
          refine v_ast C 92 dX9_fits_208 (by omega) hE62_92 (ti_in hx66 (by omega) (by omega)) (fun E67 hE67_92 oE67 => ?_)
          rw [ti_cl hx66] at hE67_92
          have hE67_68 := (oE67 68 (by decide)).trans hE62_68
          have hJ68 := hJ63.with (hJ63.1.2.1.setA rfl (by unfold PR; omega) hb52 (ti_any 3) hE67_92 oE67) (oE67 68 (by decide)) (oE67 69 (by decide)) (oE67 70 (by decide)) (fun j _ _ => oE67 j (by omega))
          have hM69 := hM64.of (oE67 68 (by decide)) (oE67 69 (by decide)) (oE67 70 (by decide))
          refine v_iconst (v := 1) C dX9_fits_209 (by decide) ?_
          exact v_ret C dX9_fits_210 rfl rfl (Or.inl ⟨rfl, ⟨by omega, by omega⟩, hJ68.toB (by decide) (by omega) (by omega)⟩)
  · refine v_tableIn (off := 210) C 211 dX9_fits_1 (by omega) (by omega) (by rw [q1v, q1]; rfl) (by decide) ?_
    have hnn := ned_2 (x := x.toInt) (by omega)
    have hdd := dlt_m (x := x.toInt) (by omega)
    refine v_aload_n C 0 dX9_fits_211 rfl rfl ?_
    obtain ⟨im70, hM70, hb70⟩ := hJ.1.1
    have hq70 := hM70.b
    refine v_geti (v := im70 35) C 68 dX9_fits_212 fX9_203 (by omega) hM70.2.2.1 rfl rfl ?_
    have him70_35 : (h : Int) ≤ (im70 35).toInt ∧ (im70 35).toInt ≤ h := hb70 35
    refine v_iconst (v := 2) C dX9_fits_215 (by decide) ?_
    refine b_icmp_lt C 256 dX9_fits_216 (by decide) (rfl : Int32.toInt (im70 35) = _) (show (2 : Int32).toInt = 2 by decide) (fun c71 => ?_) (fun c71 => ?_)
    · refine v_iconst (v := 0) C dX9_fits_256 (by decide) ?_
      exact v_ret C dX9_fits_257 rfl rfl (Or.inr ⟨rfl, hJ.toB (by decide) (by omega) (by omega)⟩)
    · refine v_aload_n C 0 dX9_fits_219 rfl rfl ?_
      refine v_iconst (v := 3) C dX9_fits_220 (by decide) ?_
      refine v_cVp C dX9_fits_221 lX9_213 mX9_isTop 68 (by omega) hM70.2.2.1 (by decide) rfl (ty_X9_isTop l G ad hJ (show (0 : Int) ≤ h ∧ h ≤ 8 by omega) 3) ⟨by decide, by decide⟩ rfl (Nat.le_of_ble_eq_true rfl) ⟨Nat.zero_le _, Nat.zero_le _⟩ (fun r72 hp73 => ?_)
      rcases hp73 with ⟨rfl, hp73⟩ | ⟨rfl, hp73⟩
      · refine b_if_eq C 256 dX9_fits_224 (by decide) (show (1 : Int32).toInt = 1 by decide) (fun c74 => absurd c74 (by decide)) (fun c74 => ?_)
        refine v_aload_n C 0 dX9_fits_227 rfl rfl ?_
        refine v_getr C 68 dX9_fits_228 fX9_97 (by omega) hM70.2.2.1 rfl rfl ?_
        refine v_aload_n C 0 dX9_fits_231 rfl rfl ?_
        refine v_geti (v := im70 35) C 68 dX9_fits_232 fX9_203 (by omega) hM70.2.2.1 rfl rfl ?_
        refine v_iconst (v := 2) C dX9_fits_235 (by decide) ?_
        refine v_isub C dX9_fits_236 ?_
        refine v_top (fun x75 ex75 => ?_)
        have hx75 : x75.toInt = ((im70 35).toInt - 2) := by rw [ex75]; exact ti_sub (rfl : Int32.toInt (im70 35) = _) (show (2 : Int32).toInt = 2 by decide) (by omega) (by omega)
        obtain ⟨f77, hE77, hb77⟩ := hJ.1.2.1.getA (b := 92) (by omega) rfl
        refine v_ald (v := f77 (((im70 35).toInt - 2)).toNat) C 92 dX9_fits_237 (by omega) hE77 (ti_in hx75 (by omega) (by omega)) (by rw [ti_cl hx75]) ?_
        refine v_top (fun x78 _ => ?_)
        refine b_if_eq C 258 dX9_fits_238 (by decide) (rfl : Int32.toInt x78 = _) (fun c79 => ?_) (fun c79 => ?_)
        · refine v_aload_n C 0 dX9_fits_258 rfl rfl ?_
          refine v_dup C dX9_fits_259 rfl ?_
          refine v_geti (v := im70 35) C 68 dX9_fits_260 fX9_203 (by omega) hM70.2.2.1 rfl rfl ?_
          refine v_iconst (v := 1) C dX9_fits_263 (by decide) ?_
          refine v_isub C dX9_fits_264 ?_
          refine v_top (fun x80 ex80 => ?_)
          have hx80 : x80.toInt = ((im70 35).toInt - 1) := by rw [ex80]; exact ti_sub (rfl : Int32.toInt (im70 35) = _) (show (1 : Int32).toInt = 1 by decide) (by omega) (by omega)
          refine v_puti C 68 dX9_fits_265 fX9_203 (by omega) hM70.2.2.1 rfl rfl rfl rfl (fun E81 hE81_68 oE81 => ?_)
          have hE81_92 := (oE81 92 (by decide)).trans hE77
          obtain ⟨hJ82, hM83, hb84⟩ := hJ.putB hM70 hb70 (k := 35) (v := x80) (by decide) (by unfold PR; omega) hE81_68 oE81
          refine v_iconst (v := 1) C dX9_fits_268 (by decide) ?_
          exact v_ret C dX9_fits_269 rfl rfl (Or.inl ⟨rfl, ⟨by omega, by omega⟩, hJ82.toB (by decide) (by omega) (by omega)⟩)
        · refine v_aload_n C 0 dX9_fits_241 rfl rfl ?_
          refine v_getr C 68 dX9_fits_242 fX9_97 (by omega) hM70.2.2.1 rfl rfl ?_
          refine v_aload_n C 0 dX9_fits_245 rfl rfl ?_
          refine v_geti (v := im70 35) C 68 dX9_fits_246 fX9_203 (by omega) hM70.2.2.1 rfl rfl ?_
          refine v_iconst (v := 2) C dX9_fits_249 (by decide) ?_
          refine v_isub C dX9_fits_250 ?_
          refine v_top (fun x85 ex85 => ?_)
          have hx85 : x85.toInt = ((im70 35).toInt - 2) := by rw [ex85]; exact ti_sub (rfl : Int32.toInt (im70 35) = _) (show (2 : Int32).toInt = 2 by decide) (by omega) (by omega)
          refine v_ald (v := f77 (((im70 35).toInt - 2)).toNat) C 92 dX9_fits_251 (by omega) hE77 (ti_in hx85 (by omega) (by omega)) (by rw [ti_cl hx85]) ?_
          refine v_top (fun x86 _ => ?_)
          refine v_iconst (v := 1) C dX9_fits_252 (by decide) ?_
          refine b_icmp_eq C 258 dX9_fits_253 (by decide) (rfl : Int32.toInt x86 = _) (show (1 : Int32).toInt = 1 by decide) (fun c87 => ?_) (fun c87 => ?_)
          · refine v_aload_n C 0 dX9_fits_258 rfl rfl ?_
            refine v_dup C dX9_fits_259 rfl ?_
            refine v_geti (v := im70 35) C 68 dX9_fits_260 fX9_203 (by omega) hM70.2.2.1 rfl rfl ?_
            refine v_iconst (v := 1) C dX9_fits_263 (by decide) ?_
            refine v_isub C dX9_fits_264 ?_
            refine v_top (fun x88 ex88 => ?_)
            have hx88 : x88.toInt = ((im70 35).toInt - 1) := by rw [ex88]; exact ti_sub (rfl : Int32.toInt (im70 35) = _) (show (1 : Int32).toInt = 1 by decide) (by omega) (by omega)
            refine v_puti C 68 dX9_fits_265 fX9_203 (by omega) hM70.2.2.1 rfl rfl rfl rfl (fun E89 hE89_68 oE89 => ?_)
            have hE89_92 := (oE89 92 (by decide)).trans hE77
            obtain ⟨hJ90, hM91, hb92⟩ := hJ.putB hM70 hb70 (k := 35) (v := x88) (by decide) (by unfold PR; omega) hE89_68 oE89
            refine v_iconst (v := 1) C dX9_fits_268 (by decide) ?_
            exact v_ret C dX9_fits_269 rfl rfl (Or.inl ⟨rfl, ⟨by omega, by omega⟩, hJ90.toB (by decide) (by omega) (by omega)⟩)
          · refine v_iconst (v := 0) C dX9_fits_256 (by decide) ?_
            exact v_ret C dX9_fits_257 rfl rfl (Or.inr ⟨rfl, hJ.toB (by decide) (by omega) (by omega)⟩)
      · refine b_if_eq C 256 dX9_fits_224 (by decide) (show (0 : Int32).toInt = 0 by decide) (fun c93 => ?_) (fun c93 => absurd c93 (by decide))
        refine v_iconst (v := 0) C dX9_fits_256 (by decide) ?_
        exact v_ret C dX9_fits_257 rfl rfl (Or.inr ⟨rfl, hJ.toB (by decide) (by omega) (by omega)⟩)
  · refine v_tableIn (off := 269) C 270 dX9_fits_1 (by omega) (by omega) (by rw [q1v, q1]; rfl) (by decide) ?_
    have hnn := ned_1 (x := x.toInt) (by omega)
    have hdd := dlt_1 (x := x.toInt) (by omega)
    refine v_aload_n C 0 dX9_fits_270 rfl rfl ?_
    obtain ⟨im94, hM94, hb94⟩ := hJ.1.1
    have hq94 := hM94.b
    refine v_geti (v := im94 35) C 68 dX9_fits_271 fX9_203 (by omega) hM94.2.2.1 rfl rfl ?_
    have him94_35 : (h : Int) ≤ (im94 35).toInt ∧ (im94 35).toInt ≤ h := hb94 35
    refine b_if_le C 299 dX9_fits_274 (by decide) (rfl : Int32.toInt (im94 35) = _) (fun c95 => ?_) (fun c95 => ?_)
    · refine v_iconst (v := 0) C dX9_fits_299 (by decide) ?_
      exact v_ret C dX9_fits_300 rfl rfl (Or.inr ⟨rfl, hJ.toB (by decide) (by omega) (by omega)⟩)
    · refine v_aload_n C 0 dX9_fits_277 rfl rfl ?_
      refine v_aload_n C 0 dX9_fits_278 rfl rfl ?_
      refine v_getr C 68 dX9_fits_279 fX9_97 (by omega) hM94.2.2.1 rfl rfl ?_
      refine v_aload_n C 0 dX9_fits_282 rfl rfl ?_
      refine v_geti (v := im94 35) C 68 dX9_fits_283 fX9_203 (by omega) hM94.2.2.1 rfl rfl ?_
      refine v_iconst (v := 1) C dX9_fits_286 (by decide) ?_
      refine v_isub C dX9_fits_287 ?_
      refine v_top (fun x96 ex96 => ?_)
      have hx96 : x96.toInt = ((im94 35).toInt - 1) := by rw [ex96]; exact ti_sub (rfl : Int32.toInt (im94 35) = _) (show (1 : Int32).toInt = 1 by decide) (by omega) (by omega)
      obtain ⟨f98, hE98, hb98⟩ := hJ.1.2.1.getA (b := 92) (by omega) rfl
      refine v_ald (v := f98 (((im94 35).toInt - 1)).toNat) C 92 dX9_fits_288 (by omega) hE98 (ti_in hx96 (by omega) (by omega)) (by rw [ti_cl hx96]) ?_
      refine v_top (fun x99 _ => ?_)
      refine v_cVi C dX9_fits_289 lX9_206 mX9_laid 68 (by omega) hM94.2.2.1 (by decide) rfl (ty_X9_laid l G ad hJ (show (0 : Int) ≤ h ∧ h ≤ 8 by omega) x99) ⟨by decide, by decide⟩ rfl (Nat.le_of_ble_eq_true rfl) ⟨Nat.zero_le _, Nat.zero_le _⟩ (fun r100 E101 hp102 => ?_)
      rcases hp102 with ⟨rfl, hp102, hJ103⟩ | ⟨rfl, hJ103⟩
      · refine b_if_eq C 299 dX9_fits_292 (by decide) (show (1 : Int32).toInt = 1 by decide) (fun c104 => absurd c104 (by decide)) (fun c104 => ?_)
        refine v_iconst (v := 1) C dX9_fits_295 (by decide) ?_
        refine v_goto C 300 dX9_fits_296 (by decide) ?_
        exact v_ret C dX9_fits_300 rfl rfl (Or.inl ⟨rfl, ⟨by omega, by omega⟩, hJ103.toB (by decide) (by omega) (by omega)⟩)
      · refine b_if_eq C 299 dX9_fits_292 (by decide) (show (0 : Int32).toInt = 0 by decide) (fun c105 => ?_) (fun c105 => absurd c105 (by decide))
        refine v_iconst (v := 0) C dX9_fits_299 (by decide) ?_
        exact v_ret C dX9_fits_300 rfl rfl (Or.inr ⟨rfl, hJ103.toB (by decide) (by omega) (by omega)⟩)
  · refine v_tableOut C 301 dX9_fits_1 (by omega) (by decide) ?_
    have hnn := ned_2 (x := x.toInt) (by omega)
    have hdd := dlt_0 (x := x.toInt) (by omega)
    refine v_aload_n C 0 dX9_fits_301 rfl rfl ?_
    obtain ⟨im106, hM106, hb106⟩ := hJ.1.1
    have hq106 := hM106.b
    refine v_geti (v := im106 35) C 68 dX9_fits_302 fX9_203 (by omega) hM106.2.2.1 rfl rfl ?_
    have him106_35 : (h : Int) ≤ (im106 35).toInt ∧ (im106 35).toInt ≤ h := hb106 35
    refine v_iconst (v := 2) C dX9_fits_305 (by decide) ?_
    refine b_icmp_ge C 311 dX9_fits_306 (by decide) (rfl : Int32.toInt (im106 35) = _) (show (2 : Int32).toInt = 2 by decide) (fun c107 => ?_) (fun c107 => ?_)
    · refine v_aload_n C 0 dX9_fits_311 rfl rfl ?_
      refine v_getr C 68 dX9_fits_312 fX9_97 (by omega) hM106.2.2.1 rfl rfl ?_
      refine v_aload_n C 0 dX9_fits_315 rfl rfl ?_
      refine v_geti (v := im106 35) C 68 dX9_fits_316 fX9_203 (by omega) hM106.2.2.1 rfl rfl ?_
      refine v_iconst (v := 1) C dX9_fits_319 (by decide) ?_
      refine v_isub C dX9_fits_320 ?_
      refine v_top (fun x108 ex108 => ?_)
      have hx108 : x108.toInt = ((im106 35).toInt - 1) := by rw [ex108]; exact ti_sub (rfl : Int32.toInt (im106 35) = _) (show (1 : Int32).toInt = 1 by decide) (by omega) (by omega)
      obtain ⟨f110, hE110, hb110⟩ := hJ.1.2.1.getA (b := 92) (by omega) rfl
      refine v_ald (v := f110 (((im106 35).toInt - 1)).toNat) C 92 dX9_fits_321 (by omega) hE110 (ti_in hx108 (by omega) (by omega)) (by rw [ti_cl hx108]) ?_
      refine v_top (fun x111 _ => ?_)
      refine v_istore_n (lv' := [(0, .ref (ad 68)), (1, .int x), (2, .int x111)]) C [1, 2, 0] dX9_fits_322 rfl (by decide) rfl ?_
      refine v_aload_n C 0 dX9_fits_323 rfl rfl ?_
      refine v_getr C 68 dX9_fits_324 fX9_97 (by omega) hM106.2.2.1 rfl rfl ?_
      refine v_aload_n C 0 dX9_fits_327 rfl rfl ?_
      refine v_geti (v := im106 35) C 68 dX9_fits_328 fX9_203 (by omega) hM106.2.2.1 rfl rfl ?_
      refine v_iconst (v := 1) C dX9_fits_331 (by decide) ?_
      refine v_isub C dX9_fits_332 ?_
      refine v_top (fun x112 ex112 => ?_)
      have hx112 : x112.toInt = ((im106 35).toInt - 1) := by rw [ex112]; exact ti_sub (rfl : Int32.toInt (im106 35) = _) (show (1 : Int32).toInt = 1 by decide) (by omega) (by omega)
      refine v_aload_n C 0 dX9_fits_333 rfl rfl ?_
      refine v_getr C 68 dX9_fits_334 fX9_97 (by omega) hM106.2.2.1 rfl rfl ?_
      refine v_aload_n C 0 dX9_fits_337 rfl rfl ?_
      refine v_geti (v := im106 35) C 68 dX9_fits_338 fX9_203 (by omega) hM106.2.2.1 rfl rfl ?_
      refine v_iconst (v := 2) C dX9_fits_341 (by decide) ?_
      refine v_isub C dX9_fits_342 ?_
      refine v_top (fun x113 ex113 => ?_)
      have hx113 : x113.toInt = ((im106 35).toInt - 2) := by rw [ex113]; exact ti_sub (rfl : Int32.toInt (im106 35) = _) (show (2 : Int32).toInt = 2 by decide) (by omega) (by omega)
      refine v_ald (v := f110 (((im106 35).toInt - 2)).toNat) C 92 dX9_fits_343 (by omega) hE110 (ti_in hx113 (by omega) (by omega)) (by rw [ti_cl hx113]) ?_
      refine v_top (fun x114 _ => ?_)
      refine v_ast C 92 dX9_fits_344 (by omega) hE110 (ti_in hx112 (by omega) (by omega)) (fun E115 hE115_92 oE115 => ?_)
      rw [ti_cl hx112] at hE115_92
      have hE115_68 := (oE115 68 (by decide)).trans hM106.2.2.1
      have hJ116 := hJ.with (hJ.1.2.1.setA rfl (by unfold PR; omega) hb110 (ti_any x114) hE115_92 oE115) (oE115 68 (by decide)) (oE115 69 (by decide)) (oE115 70 (by decide)) (fun j _ _ => oE115 j (by omega))
      have hM117 := hM106.of (oE115 68 (by decide)) (oE115 69 (by decide)) (oE115 70 (by decide))
      refine v_aload_n C 0 dX9_fits_345 rfl rfl ?_
      refine v_getr C 68 dX9_fits_346 fX9_97 (by omega) hM117.2.2.1 rfl rfl ?_
      refine v_aload_n C 0 dX9_fits_349 rfl rfl ?_
      refine v_geti (v := im106 35) C 68 dX9_fits_350 fX9_203 (by omega) hM117.2.2.1 rfl rfl ?_
      refine v_iconst (v := 2) C dX9_fits_353 (by decide) ?_
      refine v_isub C dX9_fits_354 ?_
      refine v_top (fun x118 ex118 => ?_)
      have hx118 : x118.toInt = ((im106 35).toInt - 2) := by rw [ex118]; exact ti_sub (rfl : Int32.toInt (im106 35) = _) (show (2 : Int32).toInt = 2 by decide) (by omega) (by omega)
      refine v_iload_n C 2 dX9_fits_355 rfl rfl ?_
      obtain ⟨f120, hE120, hb120⟩ := hJ116.1.2.1.getA (b := 92) (by omega) rfl
      refine v_ast C 92 dX9_fits_356 (by omega) hE120 (ti_in hx118 (by omega) (by omega)) (fun E121 hE121_92 oE121 => ?_)
      rw [ti_cl hx118] at hE121_92
      have hE121_68 := (oE121 68 (by decide)).trans hM117.2.2.1
      have hJ122 := hJ116.with (hJ116.1.2.1.setA rfl (by unfold PR; omega) hb120 (ti_any x111) hE121_92 oE121) (oE121 68 (by decide)) (oE121 69 (by decide)) (oE121 70 (by decide)) (fun j _ _ => oE121 j (by omega))
      have hM123 := hM117.of (oE121 68 (by decide)) (oE121 69 (by decide)) (oE121 70 (by decide))
      refine v_iconst (v := 1) C dX9_fits_357 (by decide) ?_
      exact v_ret C dX9_fits_358 rfl rfl (Or.inl ⟨rfl, ⟨by omega, by omega⟩, hJ122.toB (by decide) (by omega) (by omega)⟩)
    · refine v_iconst (v := 0) C dX9_fits_309 (by decide) ?_
      exact v_ret C dX9_fits_310 rfl rfl (Or.inr ⟨rfl, hJ.toB (by decide) (by omega) (by omega)⟩)

set_option maxRecDepth 20000 in
theorem ty_X9_mixOf (l : Launch) (G : Gl) (ad : Nat → Nat) {Z : (Nat → va_E) → Prop} {kn : Int} {n : Nat} {ic md : Nat → Int32} {bd : Nat → Int × Int} {E0 E : Nat → va_E} (hJ : JY l Z kn G ad n ic md bd PR E0 E) {fo : Nat → Int32} {m : Nat} (hfo : E0 89 = aI G 10 fo) (hm : m ≤ 10) (hf32 : (m : Int) ≤ (bd 32).1 ∧ (bd 32).2 ≤ (m : Int)) : CtI l G yX9_mixOf cX9_mixOf 2 .int 3 65 (n) ad E [.ref (ad 68)] (fun r E' => (r.toInt = -6 ∧ okH fo m ∧ JY l Z kn G ad n ic md (upB bd 35 (0, 8)) PR E0 E') ∨ (r.toInt ≠ -6 ∧ JY l Z kn G ad n ic md (upB bd 35 (0, 8)) PR E0 E')) := by
  refine CtI.of (by decide) (Nat.le_of_ble_eq_true rfl) (fun X A C => ?_)
  refine v_sub (lv' := [(0, .ref (ad 68))]) [0] rfl ?_
  have hn := hJ.hn
  have hz16 := hJ.1.2.2.2.2
  have hg0 : hgt fo (Int32.toInt 0).toNat = 0 := by rw [show (Int32.toInt 0).toNat = 0 by decide]; rfl
  refine v_aload_n C 0 dX9_mixOf_0 rfl rfl ?_
  refine v_iconst (v := 0) C dX9_mixOf_1 (by decide) ?_
  obtain ⟨im1, hM1, hb1⟩ := hJ.1.1
  have hq1 := hM1.b
  refine v_puti C 68 dX9_mixOf_2 fX9_203 (by omega) hM1.2.2.1 rfl rfl rfl rfl (fun E2 hE2_68 oE2 => ?_)
  obtain ⟨hJ3, hM4, hb5⟩ := hJ.putN hM1 hb1 (k := 35) (v := (0 : Int32)) (by decide) (by unfold PR; omega) hE2_68 oE2
  have hlhJ3 : (0 : Int32).toInt = 0 := by decide
  refine v_iconst (v := 0) C dX9_mixOf_5 (by decide) ?_
  refine v_istore_n (lv' := [(0, .ref (ad 68)), (1, .int 0)]) C [1, 0] dX9_mixOf_6 rfl (by decide) rfl ?_
  have LP6 : ∀ (t : Nat) (E11 : Nat → va_E) (y7 : Int32), JY l Z kn G ad n ic md (upB bd 35 (hgt fo (y7.toInt).toNat, hgt fo (y7.toInt).toNat)) PR E0 E11 → ((0 : Int) ≤ y7.toInt ∧ y7.toInt ≤ 10) → (y7.toInt ≤ (m : Int)) → (okH fo (y7.toInt).toNat) → ((0 : Int) ≤ hgt fo (y7.toInt).toNat ∧ hgt fo (y7.toInt).toNat ≤ 8) → 11 - y7.toInt < (t : Int) → V X G A 2 (QI X G A (n) ad (fun r E' => (r.toInt = -6 ∧ okH fo m ∧ JY l Z kn G ad n ic md (upB bd 35 (0, 8)) PR E0 E') ∨ (r.toInt ≠ -6 ∧ JY l Z kn G ad n ic md (upB bd 35 (0, 8)) PR E0 E'))) n ad 0 0 E11 7 [(0, .ref (ad 68)), (1, .int y7)] [] := by
    intro t15
    induction t15 with
    | zero => intro E11 y7 hJ12 hy7 hq8 hq9 hq10 hm14; exfalso; omega
    | succ t15 ih13 =>
      intro E11 y7 hJ12 hy7 hq8 hq9 hq10 hm14
      refine v_iload_n C 1 dX9_mixOf_7 rfl rfl ?_
      refine v_aload_n C 0 dX9_mixOf_8 rfl rfl ?_
      obtain ⟨im16, hM16, hb16⟩ := hJ12.1.1
      have hq16 := hM16.b
      refine v_geti (v := im16 32) C 68 dX9_mixOf_9 fX9_200 (by omega) hM16.2.2.1 rfl rfl ?_
      have him16_32r : (bd 32).1 ≤ (im16 32).toInt ∧ (im16 32).toInt ≤ (bd 32).2 := hb16 32
      have him16_32 : (m : Int) ≤ (im16 32).toInt ∧ (im16 32).toInt ≤ (m : Int) := by omega
      refine b_icmp_ge C 36 dX9_mixOf_12 (by decide) (rfl : Int32.toInt y7 = _) (rfl : Int32.toInt (im16 32) = _) (fun c17 => ?_) (fun c17 => ?_)
      · refine v_aload_n C 0 dX9_mixOf_36 rfl rfl ?_
        refine v_geti (v := im16 35) C 68 dX9_mixOf_37 fX9_203 (by omega) hM16.2.2.1 rfl rfl ?_
        have him16_35 : (hgt fo (y7.toInt).toNat : Int) ≤ (im16 35).toInt ∧ (im16 35).toInt ≤ hgt fo (y7.toInt).toNat := hb16 35
        refine v_iconst (v := 1) C dX9_mixOf_40 (by decide) ?_
        refine b_icmp_ne C 49 dX9_mixOf_41 (by decide) (rfl : Int32.toInt (im16 35) = _) (show (1 : Int32).toInt = 1 by decide) (fun c18 => ?_) (fun c18 => ?_)
        · refine v_aload_n C 0 dX9_mixOf_49 rfl rfl ?_
          refine v_geti (v := im16 32) C 68 dX9_mixOf_50 fX9_200 (by omega) hM16.2.2.1 rfl rfl ?_
          exact v_ret C dX9_mixOf_53 rfl rfl (Or.inr ⟨(by omega), hJ12.toB (by decide) (by omega) (by omega)⟩)
        · refine v_bipush (v := (-6)) C dX9_mixOf_44 (by decide) ?_
          refine v_goto C 53 dX9_mixOf_46 (by decide) ?_
          exact v_ret C dX9_mixOf_53 rfl rfl (Or.inl ⟨by decide, (by have q := hq9; rw [show (y7.toInt).toNat = m by omega] at q; exact q), hJ12.toB (by decide) (by omega) (by omega)⟩)
      · refine v_aload_n C 0 dX9_mixOf_15 rfl rfl ?_
        refine v_aload_n C 0 dX9_mixOf_16 rfl rfl ?_
        refine v_getr C 68 dX9_mixOf_17 fX9_88 (by omega) hM16.2.2.1 rfl rfl ?_
        refine v_iload_n C 1 dX9_mixOf_20 rfl rfl ?_
        have hE19 := (hJ12.1.2.1.1 89 (by unfold PR; omega)).trans hfo
        refine v_ald (v := fo (y7.toInt).toNat) C 89 dX9_mixOf_21 (by omega) hE19 (ti_in (rfl : Int32.toInt y7 = _) (by omega) (by omega)) (by rw [ti_cl (rfl : Int32.toInt y7 = _)]) ?_
        refine v_cVi C dX9_mixOf_22 lX9_216 mX9_fits 68 (by omega) hM16.2.2.1 (by decide) rfl (ty_X9_fits l G ad hJ12 (show (0 : Int) ≤ hgt fo (y7.toInt).toNat ∧ hgt fo (y7.toInt).toNat ≤ 8 by omega) (fo (y7.toInt).toNat)) ⟨by decide, by decide⟩ rfl (Nat.le_of_ble_eq_true rfl) ⟨Nat.zero_le _, Nat.zero_le _⟩ (fun r20 E21 hp22 => ?_)
        rcases hp22 with ⟨rfl, hp22, hJ23⟩ | ⟨rfl, hJ23⟩
        · refine b_if_ne C 30 dX9_mixOf_25 (by decide) (show (1 : Int32).toInt = 1 by decide) (fun c24 => ?_) (fun c24 => absurd c24 (by decide))
          obtain ⟨x25, ex25⟩ : ∃ y : Int32, y = y7 + 1 := ⟨_, rfl⟩
          have hx25 : x25.toInt = (y7.toInt + 1) := by rw [ex25]; exact ti_add (rfl : Int32.toInt y7 = _) (show (1 : Int32).toInt = 1 by decide) (by omega) (by omega)
          refine v_iinc (v := x25) (lv' := [(0, .ref (ad 68)), (1, .int x25)]) C 1 [1, 0] dX9_mixOf_30 rfl (ex25.symm) (by decide) rfl ?_
          have hS26 : hgt fo (x25.toInt).toNat = hgt fo (y7.toInt).toNat + dlt (fo (y7.toInt).toNat).toInt := by rw [show (x25.toInt).toNat = (y7.toInt).toNat + 1 by omega]; rfl
          have hS26b := dn_b (fo (y7.toInt).toNat).toInt
          refine v_goto C 7 dX9_mixOf_33 (by decide) ?_
          exact ih13 _ x25 (hJ23.toB (by decide) (by have := hx25; omega) (by have := hx25; omega)) (by have := hx25; omega) (by have := hx25; omega) (by rw [show (x25.toInt).toNat = (y7.toInt).toNat + 1 by omega]; exact okH_s hq9 hp22) (by have := hx25; omega) (by have := hx25; omega)
        · refine b_if_ne C 30 dX9_mixOf_25 (by decide) (show (0 : Int32).toInt = 0 by decide) (fun c27 => absurd c27 (by decide)) (fun c27 => ?_)
          refine v_iload_n C 1 dX9_mixOf_28 rfl rfl ?_
          exact v_ret C dX9_mixOf_29 rfl rfl (Or.inr ⟨(by omega), hJ23.toB (by decide) (by omega) (by omega)⟩)
  exact LP6 100000 _ 0 (hJ3.toB (by decide) (by have := (show (0 : Int32).toInt = 0 by decide); omega) (by have := (show (0 : Int32).toInt = 0 by decide); omega)) (by have := (show (0 : Int32).toInt = 0 by decide); omega) (by have := (show (0 : Int32).toInt = 0 by decide); omega) (by rw [show (Int32.toInt 0).toNat = 0 by decide]; exact okH_0 fo) (by have := (show (0 : Int32).toInt = 0 by decide); omega) (by have := (show (0 : Int32).toInt = 0 by decide); omega)

set_option maxRecDepth 20000 in
theorem ty_X9_comesTo (l : Launch) (G : Gl) (ad : Nat → Nat) {Z : (Nat → va_E) → Prop} {kn : Int} {n : Nat} {ic md : Nat → Int32} {bd : Nat → Int × Int} {E0 E : Nat → va_E} (hJ : JY l Z kn G ad n ic md bd PR E0 E) (hf35 : (1 : Int) ≤ (bd 35).1 ∧ (bd 35).2 ≤ 8) (v : Int64) : CtI l G yX9_comesTo cX9_comesTo 5 .boolean 3 64 (n) ad E [.ref (ad 68), .long v] (fun r E' => (r = 0 ∨ r = 1) ∧ JY l Z kn G ad n ic md bd PR E0 E') := by
  refine CtI.of (by decide) (Nat.le_of_ble_eq_true rfl) (fun X A C => ?_)
  refine v_sub (lv' := [(0, .ref (ad 68)), (1, .long v)]) [0, 1] rfl ?_
  have hn := hJ.hn
  have hz16 := hJ.1.2.2.2.2
  refine v_aload_n C 0 dX9_comesTo_0 rfl rfl ?_
  obtain ⟨im1, hM1, hb1⟩ := hJ.1.1
  have hq1 := hM1.b
  refine v_getr C 68 dX9_comesTo_1 fX9_97 (by omega) hM1.2.2.1 rfl rfl ?_
  refine v_aload_n C 0 dX9_comesTo_4 rfl rfl ?_
  refine v_geti (v := im1 35) C 68 dX9_comesTo_5 fX9_203 (by omega) hM1.2.2.1 rfl rfl ?_
  have him1_35r : (bd 35).1 ≤ (im1 35).toInt ∧ (im1 35).toInt ≤ (bd 35).2 := hb1 35
  have him1_35 : (1 : Int) ≤ (im1 35).toInt ∧ (im1 35).toInt ≤ 8 := by omega
  refine v_iconst (v := 1) C dX9_comesTo_8 (by decide) ?_
  refine v_isub C dX9_comesTo_9 ?_
  refine v_top (fun x2 ex2 => ?_)
  have hx2 : x2.toInt = ((im1 35).toInt - 1) := by rw [ex2]; exact ti_sub (rfl : Int32.toInt (im1 35) = _) (show (1 : Int32).toInt = 1 by decide) (by omega) (by omega)
  obtain ⟨f4, hE4, hb4⟩ := hJ.1.2.1.getA (b := 92) (by omega) rfl
  refine v_ald (v := f4 (((im1 35).toInt - 1)).toNat) C 92 dX9_comesTo_10 (by omega) hE4 (ti_in hx2 (by omega) (by omega)) (by rw [ti_cl hx2]) ?_
  refine v_top (fun x5 _ => ?_)
  refine v_istore_n (lv' := [(0, .ref (ad 68)), (1, .long v), (3, .int x5)]) C [1, 2, 0] dX9_comesTo_11 rfl (by decide) rfl ?_
  refine v_iload_n C 2 dX9_comesTo_12 rfl rfl ?_
  refine b_if_ne C 38 dX9_comesTo_13 (by decide) (rfl : Int32.toInt x5 = _) (fun c6 => ?_) (fun c6 => ?_)
  · refine v_iload_n C 2 dX9_comesTo_38 rfl rfl ?_
    refine v_iconst (v := 3) C dX9_comesTo_39 (by decide) ?_
    refine b_icmp_ne C 67 dX9_comesTo_40 (by decide) (rfl : Int32.toInt x5 = _) (show (3 : Int32).toInt = 3 by decide) (fun c7 => ?_) (fun c7 => ?_)
    · refine v_iload_n C 2 dX9_comesTo_67 rfl rfl ?_
      refine v_iconst (v := 2) C dX9_comesTo_68 (by decide) ?_
      refine b_icmp_ne C 96 dX9_comesTo_69 (by decide) (rfl : Int32.toInt x5 = _) (show (2 : Int32).toInt = 2 by decide) (fun c8 => ?_) (fun c8 => ?_)
      · refine v_lload_n C 1 dX9_comesTo_96 rfl rfl ?_
        refine v_lconst (v := 0) C dX9_comesTo_97 (by decide) ?_
        refine v_lcmp C dX9_comesTo_98 ?_
        refine v_top (fun x9 _ => ?_)
        refine b_if_lt C 120 dX9_comesTo_99 (by decide) (rfl : Int32.toInt x9 = _) (fun c10 => ?_) (fun c10 => ?_)
        · refine v_iconst (v := 0) C dX9_comesTo_120 (by decide) ?_
          refine v_istore (lv' := [(0, .ref (ad 68)), (1, .long v), (3, .int x5), (4, .int 0)]) C [1, 2, 3, 0] dX9_comesTo_121 (by decide) rfl ?_
          refine v_aload_n C 0 dX9_comesTo_123 rfl rfl ?_
          refine v_getr C 68 dX9_comesTo_124 fX9_100 (by omega) hM1.2.2.1 rfl rfl ?_
          refine v_aload_n C 0 dX9_comesTo_127 rfl rfl ?_
          refine v_geti (v := im1 35) C 68 dX9_comesTo_128 fX9_203 (by omega) hM1.2.2.1 rfl rfl ?_
          refine v_iconst (v := 1) C dX9_comesTo_131 (by decide) ?_
          refine v_isub C dX9_comesTo_132 ?_
          refine v_top (fun x11 ex11 => ?_)
          have hx11 : x11.toInt = ((im1 35).toInt - 1) := by rw [ex11]; exact ti_sub (rfl : Int32.toInt (im1 35) = _) (show (1 : Int32).toInt = 1 by decide) (by omega) (by omega)
          refine v_iload C 3 dX9_comesTo_133 rfl ?_
          refine b_if_eq C 143 dX9_comesTo_135 (by decide) (show (0 : Int32).toInt = 0 by decide) (fun c12 => ?_) (fun c12 => absurd c12 (by decide))
          refine v_iconst (v := 0) C dX9_comesTo_143 (by decide) ?_
          obtain ⟨f14, hE14, hb14⟩ := hJ.1.2.1.getA (b := 93) (by omega) rfl
          refine v_ast C 93 dX9_comesTo_144 (by omega) hE14 (ti_in hx11 (by omega) (by omega)) (fun E15 hE15_93 oE15 => ?_)
          rw [ti_cl hx11] at hE15_93
          have hE15_68 := (oE15 68 (by decide)).trans hM1.2.2.1
          have hE15_92 := (oE15 92 (by decide)).trans hE4
          have hJ16 := hJ.with (hJ.1.2.1.setA rfl (by unfold PR; omega) hb14 (ti_any 0) hE15_93 oE15) (oE15 68 (by decide)) (oE15 69 (by decide)) (oE15 70 (by decide)) (fun j _ _ => oE15 j (by omega))
          have hM17 := hM1.of (oE15 68 (by decide)) (oE15 69 (by decide)) (oE15 70 (by decide))
          refine v_iload C 3 dX9_comesTo_145 rfl ?_
          exact v_ret C dX9_comesTo_147 rfl rfl ⟨Or.inl rfl, hJ16⟩
        · refine v_lload_n C 1 dX9_comesTo_102 rfl rfl ?_
          refine v_ldc2 C dX9_comesTo_103 kX9_231 ?_
          refine v_aload_n C 0 dX9_comesTo_106 rfl rfl ?_
          refine v_cVi C dX9_comesTo_107 lX9_127 mX9_allDays 68 (by omega) hM1.2.2.1 (by decide) rfl (d_allDays l G _ ad _ hn hM1 ) ⟨by decide, by decide⟩ rfl (Nat.le_of_ble_eq_true rfl) ⟨Nat.zero_le _, Nat.zero_le _⟩ (fun r18 E19 hq20 => ?_)
          obtain ⟨hq20, hq20m⟩ := hq20
          have hJ21 := hJ.mr hb1 (by unfold PR; omega) (by unfold PR; omega) hq20m
          have hcyr18 := cal_y hM1.2.1
          have hr18 : (0 : Int) ≤ r18.toInt ∧ r18.toInt ≤ 48100 := by rw [hq20]; exact hcyr18
          refine v_i2l C dX9_comesTo_110 rfl ?_
          refine v_topl (fun x22 _ => ?_)
          refine v_lmul C dX9_comesTo_111 ?_
          refine v_topl (fun x23 _ => ?_)
          refine v_lcmp C dX9_comesTo_112 ?_
          refine v_top (fun x24 _ => ?_)
          refine b_if_ge C 120 dX9_comesTo_113 (by decide) (rfl : Int32.toInt x24 = _) (fun c25 => ?_) (fun c25 => ?_)
          · refine v_iconst (v := 0) C dX9_comesTo_120 (by decide) ?_
            refine v_istore (lv' := [(0, .ref (ad 68)), (1, .long v), (3, .int x5), (4, .int 0)]) C [1, 2, 3, 0] dX9_comesTo_121 (by decide) rfl ?_
            refine v_aload_n C 0 dX9_comesTo_123 rfl rfl ?_
            obtain ⟨im26, hM26, hb26⟩ := hJ21.1.1
            have hq26 := hM26.b
            refine v_getr C 68 dX9_comesTo_124 fX9_100 (by omega) hM26.2.2.1 rfl rfl ?_
            refine v_aload_n C 0 dX9_comesTo_127 rfl rfl ?_
            refine v_geti (v := im26 35) C 68 dX9_comesTo_128 fX9_203 (by omega) hM26.2.2.1 rfl rfl ?_
            have him26_35r : (bd 35).1 ≤ (im26 35).toInt ∧ (im26 35).toInt ≤ (bd 35).2 := hb26 35
            have him26_35 : (1 : Int) ≤ (im26 35).toInt ∧ (im26 35).toInt ≤ 8 := by omega
            refine v_iconst (v := 1) C dX9_comesTo_131 (by decide) ?_
            refine v_isub C dX9_comesTo_132 ?_
            refine v_top (fun x27 ex27 => ?_)
            have hx27 : x27.toInt = ((im26 35).toInt - 1) := by rw [ex27]; exact ti_sub (rfl : Int32.toInt (im26 35) = _) (show (1 : Int32).toInt = 1 by decide) (by omega) (by omega)
            refine v_iload C 3 dX9_comesTo_133 rfl ?_
            refine b_if_eq C 143 dX9_comesTo_135 (by decide) (show (0 : Int32).toInt = 0 by decide) (fun c28 => ?_) (fun c28 => absurd c28 (by decide))
            refine v_iconst (v := 0) C dX9_comesTo_143 (by decide) ?_
            obtain ⟨f30, hE30, hb30⟩ := hJ21.1.2.1.getA (b := 93) (by omega) rfl
            refine v_ast C 93 dX9_comesTo_144 (by omega) hE30 (ti_in hx27 (by omega) (by omega)) (fun E31 hE31_93 oE31 => ?_)
            rw [ti_cl hx27] at hE31_93
            have hE31_68 := (oE31 68 (by decide)).trans hM26.2.2.1
            have hJ32 := hJ21.with (hJ21.1.2.1.setA rfl (by unfold PR; omega) hb30 (ti_any 0) hE31_93 oE31) (oE31 68 (by decide)) (oE31 69 (by decide)) (oE31 70 (by decide)) (fun j _ _ => oE31 j (by omega))
            have hM33 := hM26.of (oE31 68 (by decide)) (oE31 69 (by decide)) (oE31 70 (by decide))
            refine v_iload C 3 dX9_comesTo_145 rfl ?_
            exact v_ret C dX9_comesTo_147 rfl rfl ⟨Or.inl rfl, hJ32⟩
          · refine v_iconst (v := 1) C dX9_comesTo_116 (by decide) ?_
            refine v_goto C 121 dX9_comesTo_117 (by decide) ?_
            refine v_istore (lv' := [(0, .ref (ad 68)), (1, .long v), (3, .int x5), (4, .int 1)]) C [1, 2, 3, 0] dX9_comesTo_121 (by decide) rfl ?_
            refine v_aload_n C 0 dX9_comesTo_123 rfl rfl ?_
            obtain ⟨im34, hM34, hb34⟩ := hJ21.1.1
            have hq34 := hM34.b
            refine v_getr C 68 dX9_comesTo_124 fX9_100 (by omega) hM34.2.2.1 rfl rfl ?_
            refine v_aload_n C 0 dX9_comesTo_127 rfl rfl ?_
            refine v_geti (v := im34 35) C 68 dX9_comesTo_128 fX9_203 (by omega) hM34.2.2.1 rfl rfl ?_
            have him34_35r : (bd 35).1 ≤ (im34 35).toInt ∧ (im34 35).toInt ≤ (bd 35).2 := hb34 35
            have him34_35 : (1 : Int) ≤ (im34 35).toInt ∧ (im34 35).toInt ≤ 8 := by omega
            refine v_iconst (v := 1) C dX9_comesTo_131 (by decide) ?_
            refine v_isub C dX9_comesTo_132 ?_
            refine v_top (fun x35 ex35 => ?_)
            have hx35 : x35.toInt = ((im34 35).toInt - 1) := by rw [ex35]; exact ti_sub (rfl : Int32.toInt (im34 35) = _) (show (1 : Int32).toInt = 1 by decide) (by omega) (by omega)
            refine v_iload C 3 dX9_comesTo_133 rfl ?_
            refine b_if_eq C 143 dX9_comesTo_135 (by decide) (show (1 : Int32).toInt = 1 by decide) (fun c36 => absurd c36 (by decide)) (fun c36 => ?_)
            refine v_lload_n C 1 dX9_comesTo_138 rfl rfl ?_
            refine v_l2i C dX9_comesTo_139 rfl ?_
            refine v_top (fun x37 _ => ?_)
            refine v_goto C 144 dX9_comesTo_140 (by decide) ?_
            obtain ⟨f39, hE39, hb39⟩ := hJ21.1.2.1.getA (b := 93) (by omega) rfl
            refine v_ast C 93 dX9_comesTo_144 (by omega) hE39 (ti_in hx35 (by omega) (by omega)) (fun E40 hE40_93 oE40 => ?_)
            rw [ti_cl hx35] at hE40_93
            have hE40_68 := (oE40 68 (by decide)).trans hM34.2.2.1
            have hJ41 := hJ21.with (hJ21.1.2.1.setA rfl (by unfold PR; omega) hb39 (ti_any x37) hE40_93 oE40) (oE40 68 (by decide)) (oE40 69 (by decide)) (oE40 70 (by decide)) (fun j _ _ => oE40 j (by omega))
            have hM42 := hM34.of (oE40 68 (by decide)) (oE40 69 (by decide)) (oE40 70 (by decide))
            refine v_iload C 3 dX9_comesTo_145 rfl ?_
            exact v_ret C dX9_comesTo_147 rfl rfl ⟨Or.inr rfl, hJ41⟩
      · refine v_lload_n C 1 dX9_comesTo_72 rfl rfl ?_
        refine v_lconst (v := 0) C dX9_comesTo_73 (by decide) ?_
        refine v_lcmp C dX9_comesTo_74 ?_
        refine v_top (fun x43 _ => ?_)
        refine b_if_lt C 92 dX9_comesTo_75 (by decide) (rfl : Int32.toInt x43 = _) (fun c44 => ?_) (fun c44 => ?_)
        · refine v_iconst (v := 0) C dX9_comesTo_92 (by decide) ?_
          refine v_goto C 121 dX9_comesTo_93 (by decide) ?_
          refine v_istore (lv' := [(0, .ref (ad 68)), (1, .long v), (3, .int x5), (4, .int 0)]) C [1, 2, 3, 0] dX9_comesTo_121 (by decide) rfl ?_
          refine v_aload_n C 0 dX9_comesTo_123 rfl rfl ?_
          refine v_getr C 68 dX9_comesTo_124 fX9_100 (by omega) hM1.2.2.1 rfl rfl ?_
          refine v_aload_n C 0 dX9_comesTo_127 rfl rfl ?_
          refine v_geti (v := im1 35) C 68 dX9_comesTo_128 fX9_203 (by omega) hM1.2.2.1 rfl rfl ?_
          refine v_iconst (v := 1) C dX9_comesTo_131 (by decide) ?_
          refine v_isub C dX9_comesTo_132 ?_
          refine v_top (fun x45 ex45 => ?_)
          have hx45 : x45.toInt = ((im1 35).toInt - 1) := by rw [ex45]; exact ti_sub (rfl : Int32.toInt (im1 35) = _) (show (1 : Int32).toInt = 1 by decide) (by omega) (by omega)
          refine v_iload C 3 dX9_comesTo_133 rfl ?_
          refine b_if_eq C 143 dX9_comesTo_135 (by decide) (show (0 : Int32).toInt = 0 by decide) (fun c46 => ?_) (fun c46 => absurd c46 (by decide))
          refine v_iconst (v := 0) C dX9_comesTo_143 (by decide) ?_
          obtain ⟨f48, hE48, hb48⟩ := hJ.1.2.1.getA (b := 93) (by omega) rfl
          refine v_ast C 93 dX9_comesTo_144 (by omega) hE48 (ti_in hx45 (by omega) (by omega)) (fun E49 hE49_93 oE49 => ?_)
          rw [ti_cl hx45] at hE49_93
          have hE49_68 := (oE49 68 (by decide)).trans hM1.2.2.1
          have hE49_92 := (oE49 92 (by decide)).trans hE4
          have hJ50 := hJ.with (hJ.1.2.1.setA rfl (by unfold PR; omega) hb48 (ti_any 0) hE49_93 oE49) (oE49 68 (by decide)) (oE49 69 (by decide)) (oE49 70 (by decide)) (fun j _ _ => oE49 j (by omega))
          have hM51 := hM1.of (oE49 68 (by decide)) (oE49 69 (by decide)) (oE49 70 (by decide))
          refine v_iload C 3 dX9_comesTo_145 rfl ?_
          exact v_ret C dX9_comesTo_147 rfl rfl ⟨Or.inl rfl, hJ50⟩
        · refine v_lload_n C 1 dX9_comesTo_78 rfl rfl ?_
          refine v_aload_n C 0 dX9_comesTo_79 rfl rfl ?_
          refine v_cVi C dX9_comesTo_80 lX9_127 mX9_allDays 68 (by omega) hM1.2.2.1 (by decide) rfl (d_allDays l G _ ad _ hn hM1 ) ⟨by decide, by decide⟩ rfl (Nat.le_of_ble_eq_true rfl) ⟨Nat.zero_le _, Nat.zero_le _⟩ (fun r52 E53 hq54 => ?_)
          obtain ⟨hq54, hq54m⟩ := hq54
          have hJ55 := hJ.mr hb1 (by unfold PR; omega) (by unfold PR; omega) hq54m
          have hcyr52 := cal_y hM1.2.1
          have hr52 : (0 : Int) ≤ r52.toInt ∧ r52.toInt ≤ 48100 := by rw [hq54]; exact hcyr52
          refine v_i2l C dX9_comesTo_83 rfl ?_
          refine v_topl (fun x56 _ => ?_)
          refine v_lcmp C dX9_comesTo_84 ?_
          refine v_top (fun x57 _ => ?_)
          refine b_if_ge C 92 dX9_comesTo_85 (by decide) (rfl : Int32.toInt x57 = _) (fun c58 => ?_) (fun c58 => ?_)
          · refine v_iconst (v := 0) C dX9_comesTo_92 (by decide) ?_
            refine v_goto C 121 dX9_comesTo_93 (by decide) ?_
            refine v_istore (lv' := [(0, .ref (ad 68)), (1, .long v), (3, .int x5), (4, .int 0)]) C [1, 2, 3, 0] dX9_comesTo_121 (by decide) rfl ?_
            refine v_aload_n C 0 dX9_comesTo_123 rfl rfl ?_
            obtain ⟨im59, hM59, hb59⟩ := hJ55.1.1
            have hq59 := hM59.b
            refine v_getr C 68 dX9_comesTo_124 fX9_100 (by omega) hM59.2.2.1 rfl rfl ?_
            refine v_aload_n C 0 dX9_comesTo_127 rfl rfl ?_
            refine v_geti (v := im59 35) C 68 dX9_comesTo_128 fX9_203 (by omega) hM59.2.2.1 rfl rfl ?_
            have him59_35r : (bd 35).1 ≤ (im59 35).toInt ∧ (im59 35).toInt ≤ (bd 35).2 := hb59 35
            have him59_35 : (1 : Int) ≤ (im59 35).toInt ∧ (im59 35).toInt ≤ 8 := by omega
            refine v_iconst (v := 1) C dX9_comesTo_131 (by decide) ?_
            refine v_isub C dX9_comesTo_132 ?_
            refine v_top (fun x60 ex60 => ?_)
            have hx60 : x60.toInt = ((im59 35).toInt - 1) := by rw [ex60]; exact ti_sub (rfl : Int32.toInt (im59 35) = _) (show (1 : Int32).toInt = 1 by decide) (by omega) (by omega)
            refine v_iload C 3 dX9_comesTo_133 rfl ?_
            refine b_if_eq C 143 dX9_comesTo_135 (by decide) (show (0 : Int32).toInt = 0 by decide) (fun c61 => ?_) (fun c61 => absurd c61 (by decide))
            refine v_iconst (v := 0) C dX9_comesTo_143 (by decide) ?_
            obtain ⟨f63, hE63, hb63⟩ := hJ55.1.2.1.getA (b := 93) (by omega) rfl
            refine v_ast C 93 dX9_comesTo_144 (by omega) hE63 (ti_in hx60 (by omega) (by omega)) (fun E64 hE64_93 oE64 => ?_)
            rw [ti_cl hx60] at hE64_93
            have hE64_68 := (oE64 68 (by decide)).trans hM59.2.2.1
            have hJ65 := hJ55.with (hJ55.1.2.1.setA rfl (by unfold PR; omega) hb63 (ti_any 0) hE64_93 oE64) (oE64 68 (by decide)) (oE64 69 (by decide)) (oE64 70 (by decide)) (fun j _ _ => oE64 j (by omega))
            have hM66 := hM59.of (oE64 68 (by decide)) (oE64 69 (by decide)) (oE64 70 (by decide))
            refine v_iload C 3 dX9_comesTo_145 rfl ?_
            exact v_ret C dX9_comesTo_147 rfl rfl ⟨Or.inl rfl, hJ65⟩
          · refine v_iconst (v := 1) C dX9_comesTo_88 (by decide) ?_
            refine v_goto C 121 dX9_comesTo_89 (by decide) ?_
            refine v_istore (lv' := [(0, .ref (ad 68)), (1, .long v), (3, .int x5), (4, .int 1)]) C [1, 2, 3, 0] dX9_comesTo_121 (by decide) rfl ?_
            refine v_aload_n C 0 dX9_comesTo_123 rfl rfl ?_
            obtain ⟨im67, hM67, hb67⟩ := hJ55.1.1
            have hq67 := hM67.b
            refine v_getr C 68 dX9_comesTo_124 fX9_100 (by omega) hM67.2.2.1 rfl rfl ?_
            refine v_aload_n C 0 dX9_comesTo_127 rfl rfl ?_
            refine v_geti (v := im67 35) C 68 dX9_comesTo_128 fX9_203 (by omega) hM67.2.2.1 rfl rfl ?_
            have him67_35r : (bd 35).1 ≤ (im67 35).toInt ∧ (im67 35).toInt ≤ (bd 35).2 := hb67 35
            have him67_35 : (1 : Int) ≤ (im67 35).toInt ∧ (im67 35).toInt ≤ 8 := by omega
            refine v_iconst (v := 1) C dX9_comesTo_131 (by decide) ?_
            refine v_isub C dX9_comesTo_132 ?_
            refine v_top (fun x68 ex68 => ?_)
            have hx68 : x68.toInt = ((im67 35).toInt - 1) := by rw [ex68]; exact ti_sub (rfl : Int32.toInt (im67 35) = _) (show (1 : Int32).toInt = 1 by decide) (by omega) (by omega)
            refine v_iload C 3 dX9_comesTo_133 rfl ?_
            refine b_if_eq C 143 dX9_comesTo_135 (by decide) (show (1 : Int32).toInt = 1 by decide) (fun c69 => absurd c69 (by decide)) (fun c69 => ?_)
            refine v_lload_n C 1 dX9_comesTo_138 rfl rfl ?_
            refine v_l2i C dX9_comesTo_139 rfl ?_
            refine v_top (fun x70 _ => ?_)
            refine v_goto C 144 dX9_comesTo_140 (by decide) ?_
            obtain ⟨f72, hE72, hb72⟩ := hJ55.1.2.1.getA (b := 93) (by omega) rfl
            refine v_ast C 93 dX9_comesTo_144 (by omega) hE72 (ti_in hx68 (by omega) (by omega)) (fun E73 hE73_93 oE73 => ?_)
            rw [ti_cl hx68] at hE73_93
            have hE73_68 := (oE73 68 (by decide)).trans hM67.2.2.1
            have hJ74 := hJ55.with (hJ55.1.2.1.setA rfl (by unfold PR; omega) hb72 (ti_any x70) hE73_93 oE73) (oE73 68 (by decide)) (oE73 69 (by decide)) (oE73 70 (by decide)) (fun j _ _ => oE73 j (by omega))
            have hM75 := hM67.of (oE73 68 (by decide)) (oE73 69 (by decide)) (oE73 70 (by decide))
            refine v_iload C 3 dX9_comesTo_145 rfl ?_
            exact v_ret C dX9_comesTo_147 rfl rfl ⟨Or.inr rfl, hJ74⟩
    · refine v_lload_n C 1 dX9_comesTo_43 rfl rfl ?_
      refine v_ldc2 C dX9_comesTo_44 kX9_227 ?_
      refine v_lcmp C dX9_comesTo_47 ?_
      refine v_top (fun x76 _ => ?_)
      refine b_if_lt C 63 dX9_comesTo_48 (by decide) (rfl : Int32.toInt x76 = _) (fun c77 => ?_) (fun c77 => ?_)
      · refine v_iconst (v := 0) C dX9_comesTo_63 (by decide) ?_
        refine v_goto C 121 dX9_comesTo_64 (by decide) ?_
        refine v_istore (lv' := [(0, .ref (ad 68)), (1, .long v), (3, .int x5), (4, .int 0)]) C [1, 2, 3, 0] dX9_comesTo_121 (by decide) rfl ?_
        refine v_aload_n C 0 dX9_comesTo_123 rfl rfl ?_
        refine v_getr C 68 dX9_comesTo_124 fX9_100 (by omega) hM1.2.2.1 rfl rfl ?_
        refine v_aload_n C 0 dX9_comesTo_127 rfl rfl ?_
        refine v_geti (v := im1 35) C 68 dX9_comesTo_128 fX9_203 (by omega) hM1.2.2.1 rfl rfl ?_
        refine v_iconst (v := 1) C dX9_comesTo_131 (by decide) ?_
        refine v_isub C dX9_comesTo_132 ?_
        refine v_top (fun x78 ex78 => ?_)
        have hx78 : x78.toInt = ((im1 35).toInt - 1) := by rw [ex78]; exact ti_sub (rfl : Int32.toInt (im1 35) = _) (show (1 : Int32).toInt = 1 by decide) (by omega) (by omega)
        refine v_iload C 3 dX9_comesTo_133 rfl ?_
        refine b_if_eq C 143 dX9_comesTo_135 (by decide) (show (0 : Int32).toInt = 0 by decide) (fun c79 => ?_) (fun c79 => absurd c79 (by decide))
        refine v_iconst (v := 0) C dX9_comesTo_143 (by decide) ?_
        obtain ⟨f81, hE81, hb81⟩ := hJ.1.2.1.getA (b := 93) (by omega) rfl
        refine v_ast C 93 dX9_comesTo_144 (by omega) hE81 (ti_in hx78 (by omega) (by omega)) (fun E82 hE82_93 oE82 => ?_)
        rw [ti_cl hx78] at hE82_93
        have hE82_68 := (oE82 68 (by decide)).trans hM1.2.2.1
        have hE82_92 := (oE82 92 (by decide)).trans hE4
        have hJ83 := hJ.with (hJ.1.2.1.setA rfl (by unfold PR; omega) hb81 (ti_any 0) hE82_93 oE82) (oE82 68 (by decide)) (oE82 69 (by decide)) (oE82 70 (by decide)) (fun j _ _ => oE82 j (by omega))
        have hM84 := hM1.of (oE82 68 (by decide)) (oE82 69 (by decide)) (oE82 70 (by decide))
        refine v_iload C 3 dX9_comesTo_145 rfl ?_
        exact v_ret C dX9_comesTo_147 rfl rfl ⟨Or.inl rfl, hJ83⟩
      · refine v_lload_n C 1 dX9_comesTo_51 rfl rfl ?_
        refine v_ldc2 C dX9_comesTo_52 kX9_229 ?_
        refine v_lcmp C dX9_comesTo_55 ?_
        refine v_top (fun x85 _ => ?_)
        refine b_if_gt C 63 dX9_comesTo_56 (by decide) (rfl : Int32.toInt x85 = _) (fun c86 => ?_) (fun c86 => ?_)
        · refine v_iconst (v := 0) C dX9_comesTo_63 (by decide) ?_
          refine v_goto C 121 dX9_comesTo_64 (by decide) ?_
          refine v_istore (lv' := [(0, .ref (ad 68)), (1, .long v), (3, .int x5), (4, .int 0)]) C [1, 2, 3, 0] dX9_comesTo_121 (by decide) rfl ?_
          refine v_aload_n C 0 dX9_comesTo_123 rfl rfl ?_
          refine v_getr C 68 dX9_comesTo_124 fX9_100 (by omega) hM1.2.2.1 rfl rfl ?_
          refine v_aload_n C 0 dX9_comesTo_127 rfl rfl ?_
          refine v_geti (v := im1 35) C 68 dX9_comesTo_128 fX9_203 (by omega) hM1.2.2.1 rfl rfl ?_
          refine v_iconst (v := 1) C dX9_comesTo_131 (by decide) ?_
          refine v_isub C dX9_comesTo_132 ?_
          refine v_top (fun x87 ex87 => ?_)
          have hx87 : x87.toInt = ((im1 35).toInt - 1) := by rw [ex87]; exact ti_sub (rfl : Int32.toInt (im1 35) = _) (show (1 : Int32).toInt = 1 by decide) (by omega) (by omega)
          refine v_iload C 3 dX9_comesTo_133 rfl ?_
          refine b_if_eq C 143 dX9_comesTo_135 (by decide) (show (0 : Int32).toInt = 0 by decide) (fun c88 => ?_) (fun c88 => absurd c88 (by decide))
          refine v_iconst (v := 0) C dX9_comesTo_143 (by decide) ?_
          obtain ⟨f90, hE90, hb90⟩ := hJ.1.2.1.getA (b := 93) (by omega) rfl
          refine v_ast C 93 dX9_comesTo_144 (by omega) hE90 (ti_in hx87 (by omega) (by omega)) (fun E91 hE91_93 oE91 => ?_)
          rw [ti_cl hx87] at hE91_93
          have hE91_68 := (oE91 68 (by decide)).trans hM1.2.2.1
          have hE91_92 := (oE91 92 (by decide)).trans hE4
          have hJ92 := hJ.with (hJ.1.2.1.setA rfl (by unfold PR; omega) hb90 (ti_any 0) hE91_93 oE91) (oE91 68 (by decide)) (oE91 69 (by decide)) (oE91 70 (by decide)) (fun j _ _ => oE91 j (by omega))
          have hM93 := hM1.of (oE91 68 (by decide)) (oE91 69 (by decide)) (oE91 70 (by decide))
          refine v_iload C 3 dX9_comesTo_145 rfl ?_
          exact v_ret C dX9_comesTo_147 rfl rfl ⟨Or.inl rfl, hJ92⟩
        · refine v_iconst (v := 1) C dX9_comesTo_59 (by decide) ?_
          refine v_goto C 121 dX9_comesTo_60 (by decide) ?_
          refine v_istore (lv' := [(0, .ref (ad 68)), (1, .long v), (3, .int x5), (4, .int 1)]) C [1, 2, 3, 0] dX9_comesTo_121 (by decide) rfl ?_
          refine v_aload_n C 0 dX9_comesTo_123 rfl rfl ?_
          refine v_getr C 68 dX9_comesTo_124 fX9_100 (by omega) hM1.2.2.1 rfl rfl ?_
          refine v_aload_n C 0 dX9_comesTo_127 rfl rfl ?_
          refine v_geti (v := im1 35) C 68 dX9_comesTo_128 fX9_203 (by omega) hM1.2.2.1 rfl rfl ?_
          refine v_iconst (v := 1) C dX9_comesTo_131 (by decide) ?_
          refine v_isub C dX9_comesTo_132 ?_
          refine v_top (fun x94 ex94 => ?_)
          have hx94 : x94.toInt = ((im1 35).toInt - 1) := by rw [ex94]; exact ti_sub (rfl : Int32.toInt (im1 35) = _) (show (1 : Int32).toInt = 1 by decide) (by omega) (by omega)
          refine v_iload C 3 dX9_comesTo_133 rfl ?_
          refine b_if_eq C 143 dX9_comesTo_135 (by decide) (show (1 : Int32).toInt = 1 by decide) (fun c95 => absurd c95 (by decide)) (fun c95 => ?_)
          refine v_lload_n C 1 dX9_comesTo_138 rfl rfl ?_
          refine v_l2i C dX9_comesTo_139 rfl ?_
          refine v_top (fun x96 _ => ?_)
          refine v_goto C 144 dX9_comesTo_140 (by decide) ?_
          obtain ⟨f98, hE98, hb98⟩ := hJ.1.2.1.getA (b := 93) (by omega) rfl
          refine v_ast C 93 dX9_comesTo_144 (by omega) hE98 (ti_in hx94 (by omega) (by omega)) (fun E99 hE99_93 oE99 => ?_)
          rw [ti_cl hx94] at hE99_93
          have hE99_68 := (oE99 68 (by decide)).trans hM1.2.2.1
          have hE99_92 := (oE99 92 (by decide)).trans hE4
          have hJ100 := hJ.with (hJ.1.2.1.setA rfl (by unfold PR; omega) hb98 (ti_any x96) hE99_93 oE99) (oE99 68 (by decide)) (oE99 69 (by decide)) (oE99 70 (by decide)) (fun j _ _ => oE99 j (by omega))
          have hM101 := hM1.of (oE99 68 (by decide)) (oE99 69 (by decide)) (oE99 70 (by decide))
          refine v_iload C 3 dX9_comesTo_145 rfl ?_
          exact v_ret C dX9_comesTo_147 rfl rfl ⟨Or.inr rfl, hJ100⟩
  · refine v_lload_n C 1 dX9_comesTo_16 rfl rfl ?_
    refine v_lconst (v := 0) C dX9_comesTo_17 (by decide) ?_
    refine v_lcmp C dX9_comesTo_18 ?_
    refine v_top (fun x102 _ => ?_)
    refine b_if_lt C 34 dX9_comesTo_19 (by decide) (rfl : Int32.toInt x102 = _) (fun c103 => ?_) (fun c103 => ?_)
    · refine v_iconst (v := 0) C dX9_comesTo_34 (by decide) ?_
      refine v_goto C 121 dX9_comesTo_35 (by decide) ?_
      refine v_istore (lv' := [(0, .ref (ad 68)), (1, .long v), (3, .int x5), (4, .int 0)]) C [1, 2, 3, 0] dX9_comesTo_121 (by decide) rfl ?_
      refine v_aload_n C 0 dX9_comesTo_123 rfl rfl ?_
      refine v_getr C 68 dX9_comesTo_124 fX9_100 (by omega) hM1.2.2.1 rfl rfl ?_
      refine v_aload_n C 0 dX9_comesTo_127 rfl rfl ?_
      refine v_geti (v := im1 35) C 68 dX9_comesTo_128 fX9_203 (by omega) hM1.2.2.1 rfl rfl ?_
      refine v_iconst (v := 1) C dX9_comesTo_131 (by decide) ?_
      refine v_isub C dX9_comesTo_132 ?_
      refine v_top (fun x104 ex104 => ?_)
      have hx104 : x104.toInt = ((im1 35).toInt - 1) := by rw [ex104]; exact ti_sub (rfl : Int32.toInt (im1 35) = _) (show (1 : Int32).toInt = 1 by decide) (by omega) (by omega)
      refine v_iload C 3 dX9_comesTo_133 rfl ?_
      refine b_if_eq C 143 dX9_comesTo_135 (by decide) (show (0 : Int32).toInt = 0 by decide) (fun c105 => ?_) (fun c105 => absurd c105 (by decide))
      refine v_iconst (v := 0) C dX9_comesTo_143 (by decide) ?_
      obtain ⟨f107, hE107, hb107⟩ := hJ.1.2.1.getA (b := 93) (by omega) rfl
      refine v_ast C 93 dX9_comesTo_144 (by omega) hE107 (ti_in hx104 (by omega) (by omega)) (fun E108 hE108_93 oE108 => ?_)
      rw [ti_cl hx104] at hE108_93
      have hE108_68 := (oE108 68 (by decide)).trans hM1.2.2.1
      have hE108_92 := (oE108 92 (by decide)).trans hE4
      have hJ109 := hJ.with (hJ.1.2.1.setA rfl (by unfold PR; omega) hb107 (ti_any 0) hE108_93 oE108) (oE108 68 (by decide)) (oE108 69 (by decide)) (oE108 70 (by decide)) (fun j _ _ => oE108 j (by omega))
      have hM110 := hM1.of (oE108 68 (by decide)) (oE108 69 (by decide)) (oE108 70 (by decide))
      refine v_iload C 3 dX9_comesTo_145 rfl ?_
      exact v_ret C dX9_comesTo_147 rfl rfl ⟨Or.inl rfl, hJ109⟩
    · refine v_lload_n C 1 dX9_comesTo_22 rfl rfl ?_
      refine v_ldc2 C dX9_comesTo_23 kX9_225 ?_
      refine v_lcmp C dX9_comesTo_26 ?_
      refine v_top (fun x111 _ => ?_)
      refine b_if_gt C 34 dX9_comesTo_27 (by decide) (rfl : Int32.toInt x111 = _) (fun c112 => ?_) (fun c112 => ?_)
      · refine v_iconst (v := 0) C dX9_comesTo_34 (by decide) ?_
        refine v_goto C 121 dX9_comesTo_35 (by decide) ?_
        refine v_istore (lv' := [(0, .ref (ad 68)), (1, .long v), (3, .int x5), (4, .int 0)]) C [1, 2, 3, 0] dX9_comesTo_121 (by decide) rfl ?_
        refine v_aload_n C 0 dX9_comesTo_123 rfl rfl ?_
        refine v_getr C 68 dX9_comesTo_124 fX9_100 (by omega) hM1.2.2.1 rfl rfl ?_
        refine v_aload_n C 0 dX9_comesTo_127 rfl rfl ?_
        refine v_geti (v := im1 35) C 68 dX9_comesTo_128 fX9_203 (by omega) hM1.2.2.1 rfl rfl ?_
        refine v_iconst (v := 1) C dX9_comesTo_131 (by decide) ?_
        refine v_isub C dX9_comesTo_132 ?_
        refine v_top (fun x113 ex113 => ?_)
        have hx113 : x113.toInt = ((im1 35).toInt - 1) := by rw [ex113]; exact ti_sub (rfl : Int32.toInt (im1 35) = _) (show (1 : Int32).toInt = 1 by decide) (by omega) (by omega)
        refine v_iload C 3 dX9_comesTo_133 rfl ?_
        refine b_if_eq C 143 dX9_comesTo_135 (by decide) (show (0 : Int32).toInt = 0 by decide) (fun c114 => ?_) (fun c114 => absurd c114 (by decide))
        refine v_iconst (v := 0) C dX9_comesTo_143 (by decide) ?_
        obtain ⟨f116, hE116, hb116⟩ := hJ.1.2.1.getA (b := 93) (by omega) rfl
        refine v_ast C 93 dX9_comesTo_144 (by omega) hE116 (ti_in hx113 (by omega) (by omega)) (fun E117 hE117_93 oE117 => ?_)
        rw [ti_cl hx113] at hE117_93
        have hE117_68 := (oE117 68 (by decide)).trans hM1.2.2.1
        have hE117_92 := (oE117 92 (by decide)).trans hE4
        have hJ118 := hJ.with (hJ.1.2.1.setA rfl (by unfold PR; omega) hb116 (ti_any 0) hE117_93 oE117) (oE117 68 (by decide)) (oE117 69 (by decide)) (oE117 70 (by decide)) (fun j _ _ => oE117 j (by omega))
        have hM119 := hM1.of (oE117 68 (by decide)) (oE117 69 (by decide)) (oE117 70 (by decide))
        refine v_iload C 3 dX9_comesTo_145 rfl ?_
        exact v_ret C dX9_comesTo_147 rfl rfl ⟨Or.inl rfl, hJ118⟩
      · refine v_iconst (v := 1) C dX9_comesTo_30 (by decide) ?_
        refine v_goto C 121 dX9_comesTo_31 (by decide) ?_
        refine v_istore (lv' := [(0, .ref (ad 68)), (1, .long v), (3, .int x5), (4, .int 1)]) C [1, 2, 3, 0] dX9_comesTo_121 (by decide) rfl ?_
        refine v_aload_n C 0 dX9_comesTo_123 rfl rfl ?_
        refine v_getr C 68 dX9_comesTo_124 fX9_100 (by omega) hM1.2.2.1 rfl rfl ?_
        refine v_aload_n C 0 dX9_comesTo_127 rfl rfl ?_
        refine v_geti (v := im1 35) C 68 dX9_comesTo_128 fX9_203 (by omega) hM1.2.2.1 rfl rfl ?_
        refine v_iconst (v := 1) C dX9_comesTo_131 (by decide) ?_
        refine v_isub C dX9_comesTo_132 ?_
        refine v_top (fun x120 ex120 => ?_)
        have hx120 : x120.toInt = ((im1 35).toInt - 1) := by rw [ex120]; exact ti_sub (rfl : Int32.toInt (im1 35) = _) (show (1 : Int32).toInt = 1 by decide) (by omega) (by omega)
        refine v_iload C 3 dX9_comesTo_133 rfl ?_
        refine b_if_eq C 143 dX9_comesTo_135 (by decide) (show (1 : Int32).toInt = 1 by decide) (fun c121 => absurd c121 (by decide)) (fun c121 => ?_)
        refine v_lload_n C 1 dX9_comesTo_138 rfl rfl ?_
        refine v_l2i C dX9_comesTo_139 rfl ?_
        refine v_top (fun x122 _ => ?_)
        refine v_goto C 144 dX9_comesTo_140 (by decide) ?_
        obtain ⟨f124, hE124, hb124⟩ := hJ.1.2.1.getA (b := 93) (by omega) rfl
        refine v_ast C 93 dX9_comesTo_144 (by omega) hE124 (ti_in hx120 (by omega) (by omega)) (fun E125 hE125_93 oE125 => ?_)
        rw [ti_cl hx120] at hE125_93
        have hE125_68 := (oE125 68 (by decide)).trans hM1.2.2.1
        have hE125_92 := (oE125 92 (by decide)).trans hE4
        have hJ126 := hJ.with (hJ.1.2.1.setA rfl (by unfold PR; omega) hb124 (ti_any x122) hE125_93 oE125) (oE125 68 (by decide)) (oE125 69 (by decide)) (oE125 70 (by decide)) (fun j _ _ => oE125 j (by omega))
        have hM127 := hM1.of (oE125 68 (by decide)) (oE125 69 (by decide)) (oE125 70 (by decide))
        refine v_iload C 3 dX9_comesTo_145 rfl ?_
        exact v_ret C dX9_comesTo_147 rfl rfl ⟨Or.inr rfl, hJ126⟩

set_option maxRecDepth 20000 in
theorem ty_X9_does (l : Launch) (G : Gl) (ad : Nat → Nat) {Z : (Nat → va_E) → Prop} {kn : Int} {n : Nat} {ic md : Nat → Int32} {bd : Nat → Int × Int} {E0 E : Nat → va_E} {h : Int} (hJ : JY l Z kn G ad n ic md (upB bd 35 (h, h)) PR E0 E) (hh : 0 ≤ h ∧ h ≤ 8) {fo fx : Nat → Int32} (hfo : E0 89 = aI G 10 fo) (hfx : E0 90 = aI G 10 fx) (i : Int32) (hi : (0 : Int) ≤ i.toInt ∧ i.toInt ≤ 9) (v : Int32) (hnd : ned (fo (i.toInt).toNat).toInt ≤ h) (hdl : h + dlt (fo (i.toInt).toNat).toInt ≤ 8) (hox : ((fo (i.toInt).toNat).toInt = 1 ∨ (fo (i.toInt).toNat).toInt = 4) → 0 ≤ (fx (i.toInt).toNat).toInt ∧ (fx (i.toInt).toNat).toInt ≤ 4) : CtI l G yX9_does cX9_does 8 .boolean 6 147 (n) ad E [.ref (ad 68), .int i, .int v] (fun r E' => (r = 0 ∨ r = 1) ∧ JY l Z kn G ad n ic md (upB bd 35 (h + dlt (fo (i.toInt).toNat).toInt, h + dlt (fo (i.toInt).toNat).toInt)) PR E0 E') := by
  refine CtI.of (by decide) (Nat.le_of_ble_eq_true rfl) (fun X A C => ?_)
  refine v_sub (lv' := [(0, .ref (ad 68)), (1, .int i), (2, .int v)]) [0, 1, 2] rfl ?_
  have hn := hJ.hn
  have hz16 := upB_n16 (by decide) hJ.1.2.2.2.2
  refine v_aload_n C 0 dX9_does_0 rfl rfl ?_
  obtain ⟨im1, hM1, hb1⟩ := hJ.1.1
  have hq1 := hM1.b
  refine v_geti (v := im1 35) C 68 dX9_does_1 fX9_203 (by omega) hM1.2.2.1 rfl rfl ?_
  have him1_35 : (h : Int) ≤ (im1 35).toInt ∧ (im1 35).toInt ≤ h := hb1 35
  refine v_iconst (v := 1) C dX9_does_4 (by decide) ?_
  refine v_isub C dX9_does_5 ?_
  refine v_top (fun x2 ex2 => ?_)
  have hx2 : x2.toInt = ((im1 35).toInt - 1) := by rw [ex2]; exact ti_sub (rfl : Int32.toInt (im1 35) = _) (show (1 : Int32).toInt = 1 by decide) (by omega) (by omega)
  refine v_istore_n (lv' := [(0, .ref (ad 68)), (1, .int i), (2, .int v), (3, .int x2)]) C [1, 2, 3, 0] dX9_does_6 rfl (by decide) rfl ?_
  refine v_iload_n C 3 dX9_does_7 rfl rfl ?_
  have JN3 : ∀ (E5 : Nat → va_E) (y4 : Int64), JY l Z kn G ad n ic md (upB bd 35 (h, h)) PR E0 E5 → V X G A 8 (QI X G A (n) ad (fun r E' => (r = 0 ∨ r = 1) ∧ JY l Z kn G ad n ic md (upB bd 35 (h + dlt (fo (i.toInt).toNat).toInt, h + dlt (fo (i.toInt).toNat).toInt)) PR E0 E')) n ad 0 0 E5 22 [(0, .ref (ad 68)), (1, .int i), (2, .int v), (3, .int x2)] [.long y4] := by
    intro E5 y4 hJ6
    refine v_lstore (lv' := [(0, .ref (ad 68)), (1, .int i), (2, .int v), (3, .int x2), (4, .long y4)]) C [1, 2, 3, 4, 0] dX9_does_22 (by decide) rfl ?_
    refine v_aload_n C 0 dX9_does_24 rfl rfl ?_
    obtain ⟨im7, hM7, hb7⟩ := hJ6.1.1
    have hq7 := hM7.b
    refine v_getr C 68 dX9_does_25 fX9_88 (by omega) hM7.2.2.1 rfl rfl ?_
    refine v_iload_n C 1 dX9_does_28 rfl rfl ?_
    have hE8 := (hJ6.1.2.1.1 89 (by unfold PR; omega)).trans hfo
    refine v_ald (v := fo (i.toInt).toNat) C 89 dX9_does_29 (by omega) hE8 (ti_in (rfl : Int32.toInt i = _) (by omega) (by omega)) (by rw [ti_cl (rfl : Int32.toInt i = _)]) ?_
    have q9v : Int32.toInt (fo (i.toInt).toNat) = (fo (i.toInt).toNat).toInt := (rfl : Int32.toInt (fo (i.toInt).toNat) = _)
    rcases (show (fo (i.toInt).toNat).toInt = 0 ∨ (fo (i.toInt).toNat).toInt = 1 ∨ (fo (i.toInt).toNat).toInt = 2 ∨ (fo (i.toInt).toNat).toInt = 3 ∨ (fo (i.toInt).toNat).toInt = 4 ∨ (fo (i.toInt).toNat).toInt = 5 ∨ (fo (i.toInt).toNat).toInt = 6 ∨ (fo (i.toInt).toNat).toInt = 7 ∨ (fo (i.toInt).toNat).toInt = 8 ∨ (fo (i.toInt).toNat).toInt = 9 ∨ (fo (i.toInt).toNat).toInt = 10 ∨ ((fo (i.toInt).toNat).toInt < 0 ∨ 10 < (fo (i.toInt).toNat).toInt) by omega) with q9 | q9 | q9 | q9 | q9 | q9 | q9 | q9 | q9 | q9 | q9 | q9
    · refine v_tableIn (off := 58) C 88 dX9_does_30 (by omega) (by omega) (by rw [q9v, q9]; rfl) (by decide) ?_
      have hnn := ned_0 (x := (fo (i.toInt).toNat).toInt) (by omega)
      have hdd := dlt_1 (x := (fo (i.toInt).toNat).toInt) (by omega)
      refine v_aload_n C 0 dX9_does_88 rfl rfl ?_
      refine v_dup C dX9_does_89 rfl ?_
      refine v_geti (v := im7 35) C 68 dX9_does_90 fX9_203 (by omega) hM7.2.2.1 rfl rfl ?_
      have him7_35 : (h : Int) ≤ (im7 35).toInt ∧ (im7 35).toInt ≤ h := hb7 35
      refine v_iconst (v := 1) C dX9_does_93 (by decide) ?_
      refine v_iadd C dX9_does_94 ?_
      refine v_top (fun x10 ex10 => ?_)
      have hx10 : x10.toInt = ((im7 35).toInt + 1) := by rw [ex10]; exact ti_add (rfl : Int32.toInt (im7 35) = _) (show (1 : Int32).toInt = 1 by decide) (by omega) (by omega)
      refine v_puti C 68 dX9_does_95 fX9_203 (by omega) hM7.2.2.1 rfl rfl rfl rfl (fun E11 hE11_68 oE11 => ?_)
      have hE11_89 := (oE11 89 (by decide)).trans hE8
      obtain ⟨hJ12, hM13, hb14⟩ := hJ6.putB hM7 hb7 (k := 35) (v := x10) (by decide) (by unfold PR; omega) hE11_68 oE11
      refine v_aload_n C 0 dX9_does_98 rfl rfl ?_
      refine v_getr C 68 dX9_does_99 fX9_97 (by omega) hE11_68 rfl rfl ?_
      refine v_aload_n C 0 dX9_does_102 rfl rfl ?_
      refine v_geti (v := x10) C 68 dX9_does_103 fX9_203 (by omega) hE11_68 rfl rfl ?_
      refine v_iconst (v := 1) C dX9_does_106 (by decide) ?_
      refine v_isub C dX9_does_107 ?_
      refine v_top (fun x15 ex15 => ?_)
      have hx15 : x15.toInt = (((im7 35).toInt + 1) - 1) := by rw [ex15]; exact ti_sub hx10 (show (1 : Int32).toInt = 1 by decide) (by omega) (by omega)
      refine v_iconst (v := 0) C dX9_does_108 (by decide) ?_
      obtain ⟨f17, hE17, hb17⟩ := hJ12.1.2.1.getA (b := 92) (by omega) rfl
      refine v_ast C 92 dX9_does_109 (by omega) hE17 (ti_in hx15 (by omega) (by omega)) (fun E18 hE18_92 oE18 => ?_)
      rw [ti_cl hx15] at hE18_92
      have hE18_68 := (oE18 68 (by decide)).trans hE11_68
      have hE18_89 := (oE18 89 (by decide)).trans hE11_89
      have hJ19 := hJ12.with (hJ12.1.2.1.setA rfl (by unfold PR; omega) hb17 (ti_any 0) hE18_92 oE18) (oE18 68 (by decide)) (oE18 69 (by decide)) (oE18 70 (by decide)) (fun j _ _ => oE18 j (by omega))
      have hM20 := hM13.of (oE18 68 (by decide)) (oE18 69 (by decide)) (oE18 70 (by decide))
      refine v_aload_n C 0 dX9_does_110 rfl rfl ?_
      refine v_getr C 68 dX9_does_111 fX9_100 (by omega) hM20.2.2.1 rfl rfl ?_
      refine v_aload_n C 0 dX9_does_114 rfl rfl ?_
      refine v_geti (v := x10) C 68 dX9_does_115 fX9_203 (by omega) hM20.2.2.1 rfl rfl ?_
      refine v_iconst (v := 1) C dX9_does_118 (by decide) ?_
      refine v_isub C dX9_does_119 ?_
      refine v_top (fun x21 ex21 => ?_)
      have hx21 : x21.toInt = (((im7 35).toInt + 1) - 1) := by rw [ex21]; exact ti_sub hx10 (show (1 : Int32).toInt = 1 by decide) (by omega) (by omega)
      refine v_iload_n C 2 dX9_does_120 rfl rfl ?_
      obtain ⟨f23, hE23, hb23⟩ := hJ19.1.2.1.getA (b := 93) (by omega) rfl
      refine v_ast C 93 dX9_does_121 (by omega) hE23 (ti_in hx21 (by omega) (by omega)) (fun E24 hE24_93 oE24 => ?_)
      rw [ti_cl hx21] at hE24_93
      have hE24_68 := (oE24 68 (by decide)).trans hM20.2.2.1
      have hE24_89 := (oE24 89 (by decide)).trans hE18_89
      have hJ25 := hJ19.with (hJ19.1.2.1.setA rfl (by unfold PR; omega) hb23 (ti_any v) hE24_93 oE24) (oE24 68 (by decide)) (oE24 69 (by decide)) (oE24 70 (by decide)) (fun j _ _ => oE24 j (by omega))
      have hM26 := hM20.of (oE24 68 (by decide)) (oE24 69 (by decide)) (oE24 70 (by decide))
      refine v_iconst (v := 1) C dX9_does_122 (by decide) ?_
      exact v_ret C dX9_does_123 rfl rfl ⟨Or.inr rfl, hJ25.toB (by decide) (by omega) (by omega)⟩
    · refine v_tableIn (off := 94) C 124 dX9_does_30 (by omega) (by omega) (by rw [q9v, q9]; rfl) (by decide) ?_
      have hnn := ned_1 (x := (fo (i.toInt).toNat).toInt) (by omega)
      have hdd := dlt_0 (x := (fo (i.toInt).toNat).toInt) (by omega)
      refine v_aload_n C 0 dX9_does_124 rfl rfl ?_
      refine v_getr C 68 dX9_does_125 fX9_97 (by omega) hM7.2.2.1 rfl rfl ?_
      refine v_iload_n C 3 dX9_does_128 rfl rfl ?_
      refine v_iconst (v := 1) C dX9_does_129 (by decide) ?_
      obtain ⟨f28, hE28, hb28⟩ := hJ6.1.2.1.getA (b := 92) (by omega) rfl
      refine v_ast C 92 dX9_does_130 (by omega) hE28 (ti_in hx2 (by omega) (by omega)) (fun E29 hE29_92 oE29 => ?_)
      rw [ti_cl hx2] at hE29_92
      have hE29_68 := (oE29 68 (by decide)).trans hM7.2.2.1
      have hE29_89 := (oE29 89 (by decide)).trans hE8
      have hJ30 := hJ6.with (hJ6.1.2.1.setA rfl (by unfold PR; omega) hb28 (ti_any 1) hE29_92 oE29) (oE29 68 (by decide)) (oE29 69 (by decide)) (oE29 70 (by decide)) (fun j _ _ => oE29 j (by omega))
      have hM31 := hM7.of (oE29 68 (by decide)) (oE29 69 (by decide)) (oE29 70 (by decide))
      refine v_aload_n C 0 dX9_does_131 rfl rfl ?_
      refine v_lload C 4 dX9_does_132 rfl ?_
      refine v_aload_n C 0 dX9_does_134 rfl rfl ?_
      refine v_aload_n C 0 dX9_does_135 rfl rfl ?_
      refine v_getr C 68 dX9_does_136 fX9_91 (by omega) hM31.2.2.1 rfl rfl ?_
      refine v_iload_n C 1 dX9_does_139 rfl rfl ?_
      have hE32 := (hJ30.1.2.1.1 90 (by unfold PR; omega)).trans hfx
      refine v_ald (v := fx (i.toInt).toNat) C 90 dX9_does_140 (by omega) hE32 (ti_in (rfl : Int32.toInt i = _) (by omega) (by omega)) (by rw [ti_cl (rfl : Int32.toInt i = _)]) ?_
      refine v_lload C 4 dX9_does_141 rfl ?_
      refine v_l2i C dX9_does_143 rfl ?_
      refine v_top (fun x33 _ => ?_)
      refine v_cVi C dX9_does_144 lX9_182 mX9_offsetAt 68 (by omega) hM31.2.2.1 (by decide) rfl (ty_X9_offsetAt l G ad hJ30 (fx (i.toInt).toNat) (show (0 : Int) ≤ Int32.toInt (fx (i.toInt).toNat) ∧ Int32.toInt (fx (i.toInt).toNat) ≤ 4 by omega) x33) ⟨by decide, by decide⟩ rfl (Nat.le_of_ble_eq_true rfl) ⟨Nat.zero_le _, Nat.zero_le _⟩ (fun r34 E35 hp36 => ?_)
      obtain ⟨hp36, hJ37⟩ := hp36
      refine v_i2l C dX9_does_147 rfl ?_
      refine v_topl (fun x38 _ => ?_)
      refine v_ladd C dX9_does_148 ?_
      refine v_topl (fun x39 _ => ?_)
      obtain ⟨im44, hM44, hb44⟩ := hJ37.1.1
      have hq44 := hM44.b
      refine v_cVi C dX9_does_149 lX9_242 mX9_comesTo 68 (by omega) hM44.2.2.1 (by decide) rfl (ty_X9_comesTo l G ad hJ37 (show (1 : Int) ≤ h ∧ h ≤ 8 by omega) x39) ⟨by decide, by decide⟩ rfl (Nat.le_of_ble_eq_true rfl) ⟨Nat.zero_le _, Nat.zero_le _⟩ (fun r40 E41 hp42 => ?_)
      obtain ⟨hp42, hJ43⟩ := hp42
      rcases hp42 with rfl | rfl
      · exact v_ret C dX9_does_152 rfl rfl ⟨Or.inl rfl, hJ43.toB (by decide) (by omega) (by omega)⟩
      · exact v_ret C dX9_does_152 rfl rfl ⟨Or.inr rfl, hJ43.toB (by decide) (by omega) (by omega)⟩
    · refine v_tableIn (off := 123) C 153 dX9_does_30 (by omega) (by omega) (by rw [q9v, q9]; rfl) (by decide) ?_
      have hnn := ned_1 (x := (fo (i.toInt).toNat).toInt) (by omega)
      have hdd := dlt_0 (x := (fo (i.toInt).toNat).toInt) (by omega)
      refine v_aload_n C 0 dX9_does_153 rfl rfl ?_
      refine v_getr C 68 dX9_does_154 fX9_97 (by omega) hM7.2.2.1 rfl rfl ?_
      refine v_iload_n C 3 dX9_does_157 rfl rfl ?_
      refine v_iconst (v := 2) C dX9_does_158 (by decide) ?_
      obtain ⟨f46, hE46, hb46⟩ := hJ6.1.2.1.getA (b := 92) (by omega) rfl
      refine v_ast C 92 dX9_does_159 (by omega) hE46 (ti_in hx2 (by omega) (by omega)) (fun E47 hE47_92 oE47 => ?_)
      rw [ti_cl hx2] at hE47_92
      have hE47_68 := (oE47 68 (by decide)).trans hM7.2.2.1
      have hE47_89 := (oE47 89 (by decide)).trans hE8
      have hJ48 := hJ6.with (hJ6.1.2.1.setA rfl (by unfold PR; omega) hb46 (ti_any 2) hE47_92 oE47) (oE47 68 (by decide)) (oE47 69 (by decide)) (oE47 70 (by decide)) (fun j _ _ => oE47 j (by omega))
      have hM49 := hM7.of (oE47 68 (by decide)) (oE47 69 (by decide)) (oE47 70 (by decide))
      refine v_aload_n C 0 dX9_does_160 rfl rfl ?_
      refine v_lload C 4 dX9_does_161 rfl ?_
      refine v_ldc2 C dX9_does_163 kX9_231 ?_
      refine v_ldiv C dX9_does_166 (by decide) ?_
      refine v_topl (fun x50 _ => ?_)
      refine v_cVi C dX9_does_167 lX9_242 mX9_comesTo 68 (by omega) hM49.2.2.1 (by decide) rfl (ty_X9_comesTo l G ad hJ48 (show (1 : Int) ≤ h ∧ h ≤ 8 by omega) x50) ⟨by decide, by decide⟩ rfl (Nat.le_of_ble_eq_true rfl) ⟨Nat.zero_le _, Nat.zero_le _⟩ (fun r51 E52 hp53 => ?_)
      obtain ⟨hp53, hJ54⟩ := hp53
      rcases hp53 with rfl | rfl
      · exact v_ret C dX9_does_170 rfl rfl ⟨Or.inl rfl, hJ54.toB (by decide) (by omega) (by omega)⟩
      · exact v_ret C dX9_does_170 rfl rfl ⟨Or.inr rfl, hJ54.toB (by decide) (by omega) (by omega)⟩
    · refine v_tableIn (off := 141) C 171 dX9_does_30 (by omega) (by omega) (by rw [q9v, q9]; rfl) (by decide) ?_
      have hnn := ned_1 (x := (fo (i.toInt).toNat).toInt) (by omega)
      have hdd := dlt_0 (x := (fo (i.toInt).toNat).toInt) (by omega)
      refine v_aload_n C 0 dX9_does_171 rfl rfl ?_
      refine v_getr C 68 dX9_does_172 fX9_97 (by omega) hM7.2.2.1 rfl rfl ?_
      refine v_iload_n C 3 dX9_does_175 rfl rfl ?_
      refine v_iconst (v := 1) C dX9_does_176 (by decide) ?_
      obtain ⟨f56, hE56, hb56⟩ := hJ6.1.2.1.getA (b := 92) (by omega) rfl
      refine v_ast C 92 dX9_does_177 (by omega) hE56 (ti_in hx2 (by omega) (by omega)) (fun E57 hE57_92 oE57 => ?_)
      rw [ti_cl hx2] at hE57_92
      have hE57_68 := (oE57 68 (by decide)).trans hM7.2.2.1
      have hE57_89 := (oE57 89 (by decide)).trans hE8
      have hJ58 := hJ6.with (hJ6.1.2.1.setA rfl (by unfold PR; omega) hb56 (ti_any 1) hE57_92 oE57) (oE57 68 (by decide)) (oE57 69 (by decide)) (oE57 70 (by decide)) (fun j _ _ => oE57 j (by omega))
      have hM59 := hM7.of (oE57 68 (by decide)) (oE57 69 (by decide)) (oE57 70 (by decide))
      refine v_aload_n C 0 dX9_does_178 rfl rfl ?_
      refine v_lload C 4 dX9_does_179 rfl ?_
      refine v_ldc2 C dX9_does_181 kX9_231 ?_
      refine v_lmul C dX9_does_184 ?_
      refine v_topl (fun x60 _ => ?_)
      refine v_aload_n C 0 dX9_does_185 rfl rfl ?_
      refine v_getr C 68 dX9_does_186 fX9_91 (by omega) hM59.2.2.1 rfl rfl ?_
      refine v_iload_n C 1 dX9_does_189 rfl rfl ?_
      have hE61 := (hJ58.1.2.1.1 90 (by unfold PR; omega)).trans hfx
      refine v_ald (v := fx (i.toInt).toNat) C 90 dX9_does_190 (by omega) hE61 (ti_in (rfl : Int32.toInt i = _) (by omega) (by omega)) (by rw [ti_cl (rfl : Int32.toInt i = _)]) ?_
      refine v_i2l C dX9_does_191 rfl ?_
      refine v_topl (fun x62 _ => ?_)
      refine v_ladd C dX9_does_192 ?_
      refine v_topl (fun x63 _ => ?_)
      refine v_cVi C dX9_does_193 lX9_242 mX9_comesTo 68 (by omega) hM59.2.2.1 (by decide) rfl (ty_X9_comesTo l G ad hJ58 (show (1 : Int) ≤ h ∧ h ≤ 8 by omega) x63) ⟨by decide, by decide⟩ rfl (Nat.le_of_ble_eq_true rfl) ⟨Nat.zero_le _, Nat.zero_le _⟩ (fun r64 E65 hp66 => ?_)
      obtain ⟨hp66, hJ67⟩ := hp66
      rcases hp66 with rfl | rfl
      · exact v_ret C dX9_does_196 rfl rfl ⟨Or.inl rfl, hJ67.toB (by decide) (by omega) (by omega)⟩
      · exact v_ret C dX9_does_196 rfl rfl ⟨Or.inr rfl, hJ67.toB (by decide) (by omega) (by omega)⟩
    · refine v_tableIn (off := 167) C 197 dX9_does_30 (by omega) (by omega) (by rw [q9v, q9]; rfl) (by decide) ?_
      have hnn := ned_1 (x := (fo (i.toInt).toNat).toInt) (by omega)
      have hdd := dlt_0 (x := (fo (i.toInt).toNat).toInt) (by omega)
      refine v_aload_n C 0 dX9_does_197 rfl rfl ?_
      refine v_getr C 68 dX9_does_198 fX9_97 (by omega) hM7.2.2.1 rfl rfl ?_
      refine v_iload_n C 3 dX9_does_201 rfl rfl ?_
      refine v_iconst (v := 0) C dX9_does_202 (by decide) ?_
      obtain ⟨f69, hE69, hb69⟩ := hJ6.1.2.1.getA (b := 92) (by omega) rfl
      refine v_ast C 92 dX9_does_203 (by omega) hE69 (ti_in hx2 (by omega) (by omega)) (fun E70 hE70_92 oE70 => ?_)
      rw [ti_cl hx2] at hE70_92
      have hE70_68 := (oE70 68 (by decide)).trans hM7.2.2.1
      have hE70_89 := (oE70 89 (by decide)).trans hE8
      have hJ71 := hJ6.with (hJ6.1.2.1.setA rfl (by unfold PR; omega) hb69 (ti_any 0) hE70_92 oE70) (oE70 68 (by decide)) (oE70 69 (by decide)) (oE70 70 (by decide)) (fun j _ _ => oE70 j (by omega))
      have hM72 := hM7.of (oE70 68 (by decide)) (oE70 69 (by decide)) (oE70 70 (by decide))
      refine v_aload_n C 0 dX9_does_204 rfl rfl ?_
      refine v_aload_n C 0 dX9_does_205 rfl rfl ?_
      refine v_aload_n C 0 dX9_does_206 rfl rfl ?_
      refine v_getr C 68 dX9_does_207 fX9_91 (by omega) hM72.2.2.1 rfl rfl ?_
      refine v_iload_n C 1 dX9_does_210 rfl rfl ?_
      have hE73 := (hJ71.1.2.1.1 90 (by unfold PR; omega)).trans hfx
      refine v_ald (v := fx (i.toInt).toNat) C 90 dX9_does_211 (by omega) hE73 (ti_in (rfl : Int32.toInt i = _) (by omega) (by omega)) (by rw [ti_cl (rfl : Int32.toInt i = _)]) ?_
      refine v_lload C 4 dX9_does_212 rfl ?_
      refine v_l2i C dX9_does_214 rfl ?_
      refine v_top (fun x74 _ => ?_)
      refine v_aload_n C 0 dX9_does_215 rfl rfl ?_
      refine v_getr C 68 dX9_does_216 fX9_94 (by omega) hM72.2.2.1 rfl rfl ?_
      refine v_iload_n C 1 dX9_does_219 rfl rfl ?_
      obtain ⟨f76, hE76, hb76⟩ := hJ71.1.2.1.getA (b := 91) (by omega) rfl
      refine v_ald (v := f76 (i.toInt).toNat) C 91 dX9_does_220 (by omega) hE76 (ti_in (rfl : Int32.toInt i = _) (by omega) (by omega)) (by rw [ti_cl (rfl : Int32.toInt i = _)]) ?_
      refine v_top (fun x77 _ => ?_)
      refine v_cVi C dX9_does_221 lX9_246 mX9_turned 68 (by omega) hM72.2.2.1 (by decide) rfl (ty_X9_turned l G ad hJ71 (fx (i.toInt).toNat) (show (0 : Int) ≤ Int32.toInt (fx (i.toInt).toNat) ∧ Int32.toInt (fx (i.toInt).toNat) ≤ 4 by omega) x74 x77) ⟨by decide, by decide⟩ rfl (Nat.le_of_ble_eq_true rfl) ⟨Nat.zero_le _, Nat.zero_le _⟩ (fun r78 E79 hp80 => ?_)
      obtain ⟨hp80, hJ81⟩ := hp80
      refine v_i2l C dX9_does_224 rfl ?_
      refine v_topl (fun x82 _ => ?_)
      obtain ⟨im87, hM87, hb87⟩ := hJ81.1.1
      have hq87 := hM87.b
      refine v_cVi C dX9_does_225 lX9_242 mX9_comesTo 68 (by omega) hM87.2.2.1 (by decide) rfl (ty_X9_comesTo l G ad hJ81 (show (1 : Int) ≤ h ∧ h ≤ 8 by omega) x82) ⟨by decide, by decide⟩ rfl (Nat.le_of_ble_eq_true rfl) ⟨Nat.zero_le _, Nat.zero_le _⟩ (fun r83 E84 hp85 => ?_)
      obtain ⟨hp85, hJ86⟩ := hp85
      rcases hp85 with rfl | rfl
      · exact v_ret C dX9_does_228 rfl rfl ⟨Or.inl rfl, hJ86.toB (by decide) (by omega) (by omega)⟩
      · exact v_ret C dX9_does_228 rfl rfl ⟨Or.inr rfl, hJ86.toB (by decide) (by omega) (by omega)⟩
    · refine v_tableIn (off := 199) C 229 dX9_does_30 (by omega) (by omega) (by rw [q9v, q9]; rfl) (by decide) ?_
      have hnn := ned_1 (x := (fo (i.toInt).toNat).toInt) (by omega)
      have hdd := dlt_0 (x := (fo (i.toInt).toNat).toInt) (by omega)
      refine v_aload_n C 0 dX9_does_229 rfl rfl ?_
      refine v_lload C 4 dX9_does_230 rfl ?_
      refine v_aload_n C 0 dX9_does_232 rfl rfl ?_
      refine v_getr C 68 dX9_does_233 fX9_91 (by omega) hM7.2.2.1 rfl rfl ?_
      refine v_iload_n C 1 dX9_does_236 rfl rfl ?_
      have hE88 := (hJ6.1.2.1.1 90 (by unfold PR; omega)).trans hfx
      refine v_ald (v := fx (i.toInt).toNat) C 90 dX9_does_237 (by omega) hE88 (ti_in (rfl : Int32.toInt i = _) (by omega) (by omega)) (by rw [ti_cl (rfl : Int32.toInt i = _)]) ?_
      refine v_i2l C dX9_does_238 rfl ?_
      refine v_topl (fun x89 _ => ?_)
      refine v_ladd C dX9_does_239 ?_
      refine v_topl (fun x90 _ => ?_)
      refine v_cVi C dX9_does_240 lX9_242 mX9_comesTo 68 (by omega) hM7.2.2.1 (by decide) rfl (ty_X9_comesTo l G ad hJ6 (show (1 : Int) ≤ h ∧ h ≤ 8 by omega) x90) ⟨by decide, by decide⟩ rfl (Nat.le_of_ble_eq_true rfl) ⟨Nat.zero_le _, Nat.zero_le _⟩ (fun r91 E92 hp93 => ?_)
      obtain ⟨hp93, hJ94⟩ := hp93
      rcases hp93 with rfl | rfl
      · exact v_ret C dX9_does_243 rfl rfl ⟨Or.inl rfl, hJ94.toB (by decide) (by omega) (by omega)⟩
      · exact v_ret C dX9_does_243 rfl rfl ⟨Or.inr rfl, hJ94.toB (by decide) (by omega) (by omega)⟩
    · refine v_tableIn (off := 214) C 244 dX9_does_30 (by omega) (by omega) (by rw [q9v, q9]; rfl) (by decide) ?_
      have hnn := ned_1 (x := (fo (i.toInt).toNat).toInt) (by omega)
      have hdd := dlt_0 (x := (fo (i.toInt).toNat).toInt) (by omega)
      refine v_aload_n C 0 dX9_does_244 rfl rfl ?_
      refine v_lload C 4 dX9_does_245 rfl ?_
      refine v_aload_n C 0 dX9_does_247 rfl rfl ?_
      refine v_getr C 68 dX9_does_248 fX9_91 (by omega) hM7.2.2.1 rfl rfl ?_
      refine v_iload_n C 1 dX9_does_251 rfl rfl ?_
      have hE95 := (hJ6.1.2.1.1 90 (by unfold PR; omega)).trans hfx
      refine v_ald (v := fx (i.toInt).toNat) C 90 dX9_does_252 (by omega) hE95 (ti_in (rfl : Int32.toInt i = _) (by omega) (by omega)) (by rw [ti_cl (rfl : Int32.toInt i = _)]) ?_
      refine v_i2l C dX9_does_253 rfl ?_
      refine v_topl (fun x96 _ => ?_)
      refine v_aload_n C 0 dX9_does_254 rfl rfl ?_
      refine v_getr C 68 dX9_does_255 fX9_97 (by omega) hM7.2.2.1 rfl rfl ?_
      refine v_iload_n C 3 dX9_does_258 rfl rfl ?_
      obtain ⟨f98, hE98, hb98⟩ := hJ6.1.2.1.getA (b := 92) (by omega) rfl
      refine v_ald (v := f98 (((im1 35).toInt - 1)).toNat) C 92 dX9_does_259 (by omega) hE98 (ti_in hx2 (by omega) (by omega)) (by rw [ti_cl hx2]) ?_
      refine v_top (fun x99 _ => ?_)
      refine v_iconst (v := 1) C dX9_does_260 (by decide) ?_
      refine b_icmp_ne C 270 dX9_does_261 (by decide) (rfl : Int32.toInt x99 = _) (show (1 : Int32).toInt = 1 by decide) (fun c100 => ?_) (fun c100 => ?_)
      · refine v_iconst (v := 1) C dX9_does_270 (by decide) ?_
        refine v_i2l C dX9_does_271 rfl ?_
        refine v_topl (fun x101 _ => ?_)
        refine v_lmul C dX9_does_272 ?_
        refine v_topl (fun x102 _ => ?_)
        refine v_ladd C dX9_does_273 ?_
        refine v_topl (fun x103 _ => ?_)
        refine v_cVi C dX9_does_274 lX9_242 mX9_comesTo 68 (by omega) hM7.2.2.1 (by decide) rfl (ty_X9_comesTo l G ad hJ6 (show (1 : Int) ≤ h ∧ h ≤ 8 by omega) x103) ⟨by decide, by decide⟩ rfl (Nat.le_of_ble_eq_true rfl) ⟨Nat.zero_le _, Nat.zero_le _⟩ (fun r104 E105 hp106 => ?_)
        obtain ⟨hp106, hJ107⟩ := hp106
        rcases hp106 with rfl | rfl
        · exact v_ret C dX9_does_277 rfl rfl ⟨Or.inl rfl, hJ107.toB (by decide) (by omega) (by omega)⟩
        · exact v_ret C dX9_does_277 rfl rfl ⟨Or.inr rfl, hJ107.toB (by decide) (by omega) (by omega)⟩
      · refine v_sipush (v := 1440) C dX9_does_264 (by decide) ?_
        refine v_goto C 271 dX9_does_267 (by decide) ?_
        refine v_i2l C dX9_does_271 rfl ?_
        refine v_topl (fun x108 _ => ?_)
        refine v_lmul C dX9_does_272 ?_
        refine v_topl (fun x109 _ => ?_)
        refine v_ladd C dX9_does_273 ?_
        refine v_topl (fun x110 _ => ?_)
        refine v_cVi C dX9_does_274 lX9_242 mX9_comesTo 68 (by omega) hM7.2.2.1 (by decide) rfl (ty_X9_comesTo l G ad hJ6 (show (1 : Int) ≤ h ∧ h ≤ 8 by omega) x110) ⟨by decide, by decide⟩ rfl (Nat.le_of_ble_eq_true rfl) ⟨Nat.zero_le _, Nat.zero_le _⟩ (fun r111 E112 hp113 => ?_)
        obtain ⟨hp113, hJ114⟩ := hp113
        rcases hp113 with rfl | rfl
        · exact v_ret C dX9_does_277 rfl rfl ⟨Or.inl rfl, hJ114.toB (by decide) (by omega) (by omega)⟩
        · exact v_ret C dX9_does_277 rfl rfl ⟨Or.inr rfl, hJ114.toB (by decide) (by omega) (by omega)⟩
    · refine v_tableIn (off := 248) C 278 dX9_does_30 (by omega) (by omega) (by rw [q9v, q9]; rfl) (by decide) ?_
      have hnn := ned_1 (x := (fo (i.toInt).toNat).toInt) (by omega)
      have hdd := dlt_0 (x := (fo (i.toInt).toNat).toInt) (by omega)
      refine v_aload_n C 0 dX9_does_278 rfl rfl ?_
      refine v_aload_n C 0 dX9_does_279 rfl rfl ?_
      refine v_lload C 4 dX9_does_280 rfl ?_
      refine v_l2i C dX9_does_282 rfl ?_
      refine v_top (fun x115 _ => ?_)
      refine v_aload_n C 0 dX9_does_283 rfl rfl ?_
      refine v_getr C 68 dX9_does_284 fX9_91 (by omega) hM7.2.2.1 rfl rfl ?_
      refine v_iload_n C 1 dX9_does_287 rfl rfl ?_
      have hE116 := (hJ6.1.2.1.1 90 (by unfold PR; omega)).trans hfx
      refine v_ald (v := fx (i.toInt).toNat) C 90 dX9_does_288 (by omega) hE116 (ti_in (rfl : Int32.toInt i = _) (by omega) (by omega)) (by rw [ti_cl (rfl : Int32.toInt i = _)]) ?_
      refine v_aload_n C 0 dX9_does_289 rfl rfl ?_
      refine v_getr C 68 dX9_does_290 fX9_94 (by omega) hM7.2.2.1 rfl rfl ?_
      refine v_iload_n C 1 dX9_does_293 rfl rfl ?_
      obtain ⟨f118, hE118, hb118⟩ := hJ6.1.2.1.getA (b := 91) (by omega) rfl
      refine v_ald (v := f118 (i.toInt).toNat) C 91 dX9_does_294 (by omega) hE118 (ti_in (rfl : Int32.toInt i = _) (by omega) (by omega)) (by rw [ti_cl (rfl : Int32.toInt i = _)]) ?_
      refine v_top (fun x119 _ => ?_)
      refine v_cVi C dX9_does_295 lX9_152 mX9_later 68 (by omega) hM7.2.2.1 (by decide) rfl (ty_X9_later l G ad hJ6 x115 (fx (i.toInt).toNat) x119) ⟨by decide, by decide⟩ rfl (Nat.le_of_ble_eq_true rfl) ⟨Nat.zero_le _, Nat.zero_le _⟩ (fun r120 E121 hp122 => ?_)
      obtain ⟨hp122, hJ123⟩ := hp122
      refine v_i2l C dX9_does_298 rfl ?_
      refine v_topl (fun x124 _ => ?_)
      obtain ⟨im129, hM129, hb129⟩ := hJ123.1.1
      have hq129 := hM129.b
      refine v_cVi C dX9_does_299 lX9_242 mX9_comesTo 68 (by omega) hM129.2.2.1 (by decide) rfl (ty_X9_comesTo l G ad hJ123 (show (1 : Int) ≤ h ∧ h ≤ 8 by omega) x124) ⟨by decide, by decide⟩ rfl (Nat.le_of_ble_eq_true rfl) ⟨Nat.zero_le _, Nat.zero_le _⟩ (fun r125 E126 hp127 => ?_)
      obtain ⟨hp127, hJ128⟩ := hp127
      rcases hp127 with rfl | rfl
      · exact v_ret C dX9_does_302 rfl rfl ⟨Or.inl rfl, hJ128.toB (by decide) (by omega) (by omega)⟩
      · exact v_ret C dX9_does_302 rfl rfl ⟨Or.inr rfl, hJ128.toB (by decide) (by omega) (by omega)⟩
    · refine v_tableIn (off := 273) C 303 dX9_does_30 (by omega) (by omega) (by rw [q9v, q9]; rfl) (by decide) ?_
      have hnn := ned_2 (x := (fo (i.toInt).toNat).toInt) (by omega)
      have hdd := dlt_m (x := (fo (i.toInt).toNat).toInt) (by omega)
      refine v_aload_n C 0 dX9_does_303 rfl rfl ?_
      refine v_dup C dX9_does_304 rfl ?_
      refine v_geti (v := im7 35) C 68 dX9_does_305 fX9_203 (by omega) hM7.2.2.1 rfl rfl ?_
      have him7_35 : (h : Int) ≤ (im7 35).toInt ∧ (im7 35).toInt ≤ h := hb7 35
      refine v_iconst (v := 1) C dX9_does_308 (by decide) ?_
      refine v_isub C dX9_does_309 ?_
      refine v_top (fun x130 ex130 => ?_)
      have hx130 : x130.toInt = ((im7 35).toInt - 1) := by rw [ex130]; exact ti_sub (rfl : Int32.toInt (im7 35) = _) (show (1 : Int32).toInt = 1 by decide) (by omega) (by omega)
      refine v_puti C 68 dX9_does_310 fX9_203 (by omega) hM7.2.2.1 rfl rfl rfl rfl (fun E131 hE131_68 oE131 => ?_)
      have hE131_89 := (oE131 89 (by decide)).trans hE8
      obtain ⟨hJ132, hM133, hb134⟩ := hJ6.putB hM7 hb7 (k := 35) (v := x130) (by decide) (by unfold PR; omega) hE131_68 oE131
      refine v_aload_n C 0 dX9_does_313 rfl rfl ?_
      refine v_getr C 68 dX9_does_314 fX9_97 (by omega) hE131_68 rfl rfl ?_
      refine v_aload_n C 0 dX9_does_317 rfl rfl ?_
      refine v_geti (v := x130) C 68 dX9_does_318 fX9_203 (by omega) hE131_68 rfl rfl ?_
      refine v_iconst (v := 1) C dX9_does_321 (by decide) ?_
      refine v_isub C dX9_does_322 ?_
      refine v_top (fun x135 ex135 => ?_)
      have hx135 : x135.toInt = (((im7 35).toInt - 1) - 1) := by rw [ex135]; exact ti_sub hx130 (show (1 : Int32).toInt = 1 by decide) (by omega) (by omega)
      obtain ⟨f137, hE137, hb137⟩ := hJ132.1.2.1.getA (b := 92) (by omega) rfl
      refine v_ald (v := f137 ((((im7 35).toInt - 1) - 1)).toNat) C 92 dX9_does_323 (by omega) hE137 (ti_in hx135 (by omega) (by omega)) (by rw [ti_cl hx135]) ?_
      refine v_top (fun x138 _ => ?_)
      refine v_iconst (v := 2) C dX9_does_324 (by decide) ?_
      refine b_icmp_ne C 332 dX9_does_325 (by decide) (rfl : Int32.toInt x138 = _) (show (2 : Int32).toInt = 2 by decide) (fun c139 => ?_) (fun c139 => ?_)
      · refine v_iconst (v := 0) C dX9_does_332 (by decide) ?_
        refine v_istore (lv' := [(0, .ref (ad 68)), (1, .int i), (2, .int v), (3, .int x2), (4, .long y4), (6, .int 0)]) C [1, 2, 3, 4, 5, 0] dX9_does_333 (by decide) rfl ?_
        refine v_aload_n C 0 dX9_does_335 rfl rfl ?_
        refine v_getr C 68 dX9_does_336 fX9_97 (by omega) hE131_68 rfl rfl ?_
        refine v_aload_n C 0 dX9_does_339 rfl rfl ?_
        refine v_geti (v := x130) C 68 dX9_does_340 fX9_203 (by omega) hE131_68 rfl rfl ?_
        refine v_iconst (v := 1) C dX9_does_343 (by decide) ?_
        refine v_isub C dX9_does_344 ?_
        refine v_top (fun x140 ex140 => ?_)
        have hx140 : x140.toInt = (((im7 35).toInt - 1) - 1) := by rw [ex140]; exact ti_sub hx130 (show (1 : Int32).toInt = 1 by decide) (by omega) (by omega)
        refine v_iconst (v := 3) C dX9_does_345 (by decide) ?_
        refine v_ast C 92 dX9_does_346 (by omega) hE137 (ti_in hx140 (by omega) (by omega)) (fun E141 hE141_92 oE141 => ?_)
        rw [ti_cl hx140] at hE141_92
        have hE141_68 := (oE141 68 (by decide)).trans hE131_68
        have hE141_89 := (oE141 89 (by decide)).trans hE131_89
        have hJ142 := hJ132.with (hJ132.1.2.1.setA rfl (by unfold PR; omega) hb137 (ti_any 3) hE141_92 oE141) (oE141 68 (by decide)) (oE141 69 (by decide)) (oE141 70 (by decide)) (fun j _ _ => oE141 j (by omega))
        have hM143 := hM133.of (oE141 68 (by decide)) (oE141 69 (by decide)) (oE141 70 (by decide))
        refine v_aload_n C 0 dX9_does_347 rfl rfl ?_
        refine v_lload C 4 dX9_does_348 rfl ?_
        refine v_aload_n C 0 dX9_does_350 rfl rfl ?_
        refine v_getr C 68 dX9_does_351 fX9_100 (by omega) hM143.2.2.1 rfl rfl ?_
        refine v_aload_n C 0 dX9_does_354 rfl rfl ?_
        refine v_geti (v := x130) C 68 dX9_does_355 fX9_203 (by omega) hM143.2.2.1 rfl rfl ?_
        refine v_iconst (v := 1) C dX9_does_358 (by decide) ?_
        refine v_isub C dX9_does_359 ?_
        refine v_top (fun x144 ex144 => ?_)
        have hx144 : x144.toInt = (((im7 35).toInt - 1) - 1) := by rw [ex144]; exact ti_sub hx130 (show (1 : Int32).toInt = 1 by decide) (by omega) (by omega)
        obtain ⟨f146, hE146, hb146⟩ := hJ142.1.2.1.getA (b := 93) (by omega) rfl
        refine v_ald (v := f146 ((((im7 35).toInt - 1) - 1)).toNat) C 93 dX9_does_360 (by omega) hE146 (ti_in hx144 (by omega) (by omega)) (by rw [ti_cl hx144]) ?_
        refine v_top (fun x147 _ => ?_)
        refine v_i2l C dX9_does_361 rfl ?_
        refine v_topl (fun x148 _ => ?_)
        refine v_lsub C dX9_does_362 ?_
        refine v_topl (fun x149 _ => ?_)
        refine v_iload C 5 dX9_does_363 rfl ?_
        refine b_if_eq C 374 dX9_does_365 (by decide) (show (0 : Int32).toInt = 0 by decide) (fun c150 => ?_) (fun c150 => absurd c150 (by decide))
        refine v_iconst (v := 1) C dX9_does_374 (by decide) ?_
        refine v_i2l C dX9_does_375 rfl ?_
        refine v_topl (fun x151 _ => ?_)
        refine v_lmul C dX9_does_376 ?_
        refine v_topl (fun x152 _ => ?_)
        refine v_cVi C dX9_does_377 lX9_242 mX9_comesTo 68 (by omega) hM143.2.2.1 (by decide) rfl (ty_X9_comesTo l G ad hJ142 (show (1 : Int) ≤ x130.toInt ∧ x130.toInt ≤ 8 by omega) x152) ⟨by decide, by decide⟩ rfl (Nat.le_of_ble_eq_true rfl) ⟨Nat.zero_le _, Nat.zero_le _⟩ (fun r153 E154 hp155 => ?_)
        obtain ⟨hp155, hJ156⟩ := hp155
        rcases hp155 with rfl | rfl
        · exact v_ret C dX9_does_380 rfl rfl ⟨Or.inl rfl, hJ156.toB (by decide) (by omega) (by omega)⟩
        · exact v_ret C dX9_does_380 rfl rfl ⟨Or.inr rfl, hJ156.toB (by decide) (by omega) (by omega)⟩
      · refine v_iconst (v := 1) C dX9_does_328 (by decide) ?_
        refine v_goto C 333 dX9_does_329 (by decide) ?_
        refine v_istore (lv' := [(0, .ref (ad 68)), (1, .int i), (2, .int v), (3, .int x2), (4, .long y4), (6, .int 1)]) C [1, 2, 3, 4, 5, 0] dX9_does_333 (by decide) rfl ?_
        refine v_aload_n C 0 dX9_does_335 rfl rfl ?_
        refine v_getr C 68 dX9_does_336 fX9_97 (by omega) hE131_68 rfl rfl ?_
        refine v_aload_n C 0 dX9_does_339 rfl rfl ?_
        refine v_geti (v := x130) C 68 dX9_does_340 fX9_203 (by omega) hE131_68 rfl rfl ?_
        refine v_iconst (v := 1) C dX9_does_343 (by decide) ?_
        refine v_isub C dX9_does_344 ?_
        refine v_top (fun x157 ex157 => ?_)
        have hx157 : x157.toInt = (((im7 35).toInt - 1) - 1) := by rw [ex157]; exact ti_sub hx130 (show (1 : Int32).toInt = 1 by decide) (by omega) (by omega)
        refine v_iconst (v := 3) C dX9_does_345 (by decide) ?_
        refine v_ast C 92 dX9_does_346 (by omega) hE137 (ti_in hx157 (by omega) (by omega)) (fun E158 hE158_92 oE158 => ?_)
        rw [ti_cl hx157] at hE158_92
        have hE158_68 := (oE158 68 (by decide)).trans hE131_68
        have hE158_89 := (oE158 89 (by decide)).trans hE131_89
        have hJ159 := hJ132.with (hJ132.1.2.1.setA rfl (by unfold PR; omega) hb137 (ti_any 3) hE158_92 oE158) (oE158 68 (by decide)) (oE158 69 (by decide)) (oE158 70 (by decide)) (fun j _ _ => oE158 j (by omega))
        have hM160 := hM133.of (oE158 68 (by decide)) (oE158 69 (by decide)) (oE158 70 (by decide))
        refine v_aload_n C 0 dX9_does_347 rfl rfl ?_
        refine v_lload C 4 dX9_does_348 rfl ?_
        refine v_aload_n C 0 dX9_does_350 rfl rfl ?_
        refine v_getr C 68 dX9_does_351 fX9_100 (by omega) hM160.2.2.1 rfl rfl ?_
        refine v_aload_n C 0 dX9_does_354 rfl rfl ?_
        refine v_geti (v := x130) C 68 dX9_does_355 fX9_203 (by omega) hM160.2.2.1 rfl rfl ?_
        refine v_iconst (v := 1) C dX9_does_358 (by decide) ?_
        refine v_isub C dX9_does_359 ?_
        refine v_top (fun x161 ex161 => ?_)
        have hx161 : x161.toInt = (((im7 35).toInt - 1) - 1) := by rw [ex161]; exact ti_sub hx130 (show (1 : Int32).toInt = 1 by decide) (by omega) (by omega)
        obtain ⟨f163, hE163, hb163⟩ := hJ159.1.2.1.getA (b := 93) (by omega) rfl
        refine v_ald (v := f163 ((((im7 35).toInt - 1) - 1)).toNat) C 93 dX9_does_360 (by omega) hE163 (ti_in hx161 (by omega) (by omega)) (by rw [ti_cl hx161]) ?_
        refine v_top (fun x164 _ => ?_)
        refine v_i2l C dX9_does_361 rfl ?_
        refine v_topl (fun x165 _ => ?_)
        refine v_lsub C dX9_does_362 ?_
        refine v_topl (fun x166 _ => ?_)
        refine v_iload C 5 dX9_does_363 rfl ?_
        refine b_if_eq C 374 dX9_does_365 (by decide) (show (1 : Int32).toInt = 1 by decide) (fun c167 => absurd c167 (by decide)) (fun c167 => ?_)
        refine v_sipush (v := 1440) C dX9_does_368 (by decide) ?_
        refine v_goto C 375 dX9_does_371 (by decide) ?_
        refine v_i2l C dX9_does_375 rfl ?_
        refine v_topl (fun x168 _ => ?_)
        refine v_lmul C dX9_does_376 ?_
        refine v_topl (fun x169 _ => ?_)
        refine v_cVi C dX9_does_377 lX9_242 mX9_comesTo 68 (by omega) hM160.2.2.1 (by decide) rfl (ty_X9_comesTo l G ad hJ159 (show (1 : Int) ≤ x130.toInt ∧ x130.toInt ≤ 8 by omega) x169) ⟨by decide, by decide⟩ rfl (Nat.le_of_ble_eq_true rfl) ⟨Nat.zero_le _, Nat.zero_le _⟩ (fun r170 E171 hp172 => ?_)
        obtain ⟨hp172, hJ173⟩ := hp172
        rcases hp172 with rfl | rfl
        · exact v_ret C dX9_does_380 rfl rfl ⟨Or.inl rfl, hJ173.toB (by decide) (by omega) (by omega)⟩
        · exact v_ret C dX9_does_380 rfl rfl ⟨Or.inr rfl, hJ173.toB (by decide) (by omega) (by omega)⟩
    · refine v_tableIn (off := 351) C 381 dX9_does_30 (by omega) (by omega) (by rw [q9v, q9]; rfl) (by decide) ?_
      have hnn := ned_2 (x := (fo (i.toInt).toNat).toInt) (by omega)
      have hdd := dlt_m (x := (fo (i.toInt).toNat).toInt) (by omega)
      refine v_aload_n C 0 dX9_does_381 rfl rfl ?_
      refine v_dup C dX9_does_382 rfl ?_
      refine v_geti (v := im7 35) C 68 dX9_does_383 fX9_203 (by omega) hM7.2.2.1 rfl rfl ?_
      have him7_35 : (h : Int) ≤ (im7 35).toInt ∧ (im7 35).toInt ≤ h := hb7 35
      refine v_iconst (v := 1) C dX9_does_386 (by decide) ?_
      refine v_isub C dX9_does_387 ?_
      refine v_top (fun x174 ex174 => ?_)
      have hx174 : x174.toInt = ((im7 35).toInt - 1) := by rw [ex174]; exact ti_sub (rfl : Int32.toInt (im7 35) = _) (show (1 : Int32).toInt = 1 by decide) (by omega) (by omega)
      refine v_puti C 68 dX9_does_388 fX9_203 (by omega) hM7.2.2.1 rfl rfl rfl rfl (fun E175 hE175_68 oE175 => ?_)
      have hE175_89 := (oE175 89 (by decide)).trans hE8
      obtain ⟨hJ176, hM177, hb178⟩ := hJ6.putB hM7 hb7 (k := 35) (v := x174) (by decide) (by unfold PR; omega) hE175_68 oE175
      refine v_aload_n C 0 dX9_does_391 rfl rfl ?_
      refine v_lload C 4 dX9_does_392 rfl ?_
      refine v_aload_n C 0 dX9_does_394 rfl rfl ?_
      refine v_getr C 68 dX9_does_395 fX9_100 (by omega) hE175_68 rfl rfl ?_
      refine v_aload_n C 0 dX9_does_398 rfl rfl ?_
      refine v_geti (v := x174) C 68 dX9_does_399 fX9_203 (by omega) hE175_68 rfl rfl ?_
      refine v_iconst (v := 1) C dX9_does_402 (by decide) ?_
      refine v_isub C dX9_does_403 ?_
      refine v_top (fun x179 ex179 => ?_)
      have hx179 : x179.toInt = (((im7 35).toInt - 1) - 1) := by rw [ex179]; exact ti_sub hx174 (show (1 : Int32).toInt = 1 by decide) (by omega) (by omega)
      obtain ⟨f181, hE181, hb181⟩ := hJ176.1.2.1.getA (b := 93) (by omega) rfl
      refine v_ald (v := f181 ((((im7 35).toInt - 1) - 1)).toNat) C 93 dX9_does_404 (by omega) hE181 (ti_in hx179 (by omega) (by omega)) (by rw [ti_cl hx179]) ?_
      refine v_top (fun x182 _ => ?_)
      refine v_i2l C dX9_does_405 rfl ?_
      refine v_topl (fun x183 _ => ?_)
      refine v_ladd C dX9_does_406 ?_
      refine v_topl (fun x184 _ => ?_)
      refine v_cVi C dX9_does_407 lX9_242 mX9_comesTo 68 (by omega) hE175_68 (by decide) rfl (ty_X9_comesTo l G ad hJ176 (show (1 : Int) ≤ x174.toInt ∧ x174.toInt ≤ 8 by omega) x184) ⟨by decide, by decide⟩ rfl (Nat.le_of_ble_eq_true rfl) ⟨Nat.zero_le _, Nat.zero_le _⟩ (fun r185 E186 hp187 => ?_)
      obtain ⟨hp187, hJ188⟩ := hp187
      rcases hp187 with rfl | rfl
      · exact v_ret C dX9_does_410 rfl rfl ⟨Or.inl rfl, hJ188.toB (by decide) (by omega) (by omega)⟩
      · exact v_ret C dX9_does_410 rfl rfl ⟨Or.inr rfl, hJ188.toB (by decide) (by omega) (by omega)⟩
    · refine v_tableIn (off := 381) C 411 dX9_does_30 (by omega) (by omega) (by rw [q9v, q9]; rfl) (by decide) ?_
      have hnn := ned_1 (x := (fo (i.toInt).toNat).toInt) (by omega)
      have hdd := dlt_1 (x := (fo (i.toInt).toNat).toInt) (by omega)
      refine v_aload_n C 0 dX9_does_411 rfl rfl ?_
      refine v_dup C dX9_does_412 rfl ?_
      refine v_geti (v := im7 35) C 68 dX9_does_413 fX9_203 (by omega) hM7.2.2.1 rfl rfl ?_
      have him7_35 : (h : Int) ≤ (im7 35).toInt ∧ (im7 35).toInt ≤ h := hb7 35
      refine v_iconst (v := 1) C dX9_does_416 (by decide) ?_
      refine v_iadd C dX9_does_417 ?_
      refine v_top (fun x189 ex189 => ?_)
      have hx189 : x189.toInt = ((im7 35).toInt + 1) := by rw [ex189]; exact ti_add (rfl : Int32.toInt (im7 35) = _) (show (1 : Int32).toInt = 1 by decide) (by omega) (by omega)
      refine v_puti C 68 dX9_does_418 fX9_203 (by omega) hM7.2.2.1 rfl rfl rfl rfl (fun E190 hE190_68 oE190 => ?_)
      have hE190_89 := (oE190 89 (by decide)).trans hE8
      obtain ⟨hJ191, hM192, hb193⟩ := hJ6.putB hM7 hb7 (k := 35) (v := x189) (by decide) (by unfold PR; omega) hE190_68 oE190
      refine v_aload_n C 0 dX9_does_421 rfl rfl ?_
      refine v_getr C 68 dX9_does_422 fX9_97 (by omega) hE190_68 rfl rfl ?_
      refine v_aload_n C 0 dX9_does_425 rfl rfl ?_
      refine v_geti (v := x189) C 68 dX9_does_426 fX9_203 (by omega) hE190_68 rfl rfl ?_
      refine v_iconst (v := 1) C dX9_does_429 (by decide) ?_
      refine v_isub C dX9_does_430 ?_
      refine v_top (fun x194 ex194 => ?_)
      have hx194 : x194.toInt = (((im7 35).toInt + 1) - 1) := by rw [ex194]; exact ti_sub hx189 (show (1 : Int32).toInt = 1 by decide) (by omega) (by omega)
      refine v_aload_n C 0 dX9_does_431 rfl rfl ?_
      refine v_getr C 68 dX9_does_432 fX9_97 (by omega) hE190_68 rfl rfl ?_
      refine v_iload_n C 3 dX9_does_435 rfl rfl ?_
      obtain ⟨f196, hE196, hb196⟩ := hJ191.1.2.1.getA (b := 92) (by omega) rfl
      refine v_ald (v := f196 (((im1 35).toInt - 1)).toNat) C 92 dX9_does_436 (by omega) hE196 (ti_in hx2 (by omega) (by omega)) (by rw [ti_cl hx2]) ?_
      refine v_top (fun x197 _ => ?_)
      refine v_ast C 92 dX9_does_437 (by omega) hE196 (ti_in hx194 (by omega) (by omega)) (fun E198 hE198_92 oE198 => ?_)
      rw [ti_cl hx194] at hE198_92
      have hE198_68 := (oE198 68 (by decide)).trans hE190_68
      have hE198_89 := (oE198 89 (by decide)).trans hE190_89
      have hJ199 := hJ191.with (hJ191.1.2.1.setA rfl (by unfold PR; omega) hb196 (ti_any x197) hE198_92 oE198) (oE198 68 (by decide)) (oE198 69 (by decide)) (oE198 70 (by decide)) (fun j _ _ => oE198 j (by omega))
      have hM200 := hM192.of (oE198 68 (by decide)) (oE198 69 (by decide)) (oE198 70 (by decide))
      refine v_aload_n C 0 dX9_does_438 rfl rfl ?_
      refine v_getr C 68 dX9_does_439 fX9_100 (by omega) hM200.2.2.1 rfl rfl ?_
      refine v_aload_n C 0 dX9_does_442 rfl rfl ?_
      refine v_geti (v := x189) C 68 dX9_does_443 fX9_203 (by omega) hM200.2.2.1 rfl rfl ?_
      refine v_iconst (v := 1) C dX9_does_446 (by decide) ?_
      refine v_isub C dX9_does_447 ?_
      refine v_top (fun x201 ex201 => ?_)
      have hx201 : x201.toInt = (((im7 35).toInt + 1) - 1) := by rw [ex201]; exact ti_sub hx189 (show (1 : Int32).toInt = 1 by decide) (by omega) (by omega)
      refine v_aload_n C 0 dX9_does_448 rfl rfl ?_
      refine v_getr C 68 dX9_does_449 fX9_100 (by omega) hM200.2.2.1 rfl rfl ?_
      refine v_iload_n C 3 dX9_does_452 rfl rfl ?_
      obtain ⟨f203, hE203, hb203⟩ := hJ199.1.2.1.getA (b := 93) (by omega) rfl
      refine v_ald (v := f203 (((im1 35).toInt - 1)).toNat) C 93 dX9_does_453 (by omega) hE203 (ti_in hx2 (by omega) (by omega)) (by rw [ti_cl hx2]) ?_
      refine v_top (fun x204 _ => ?_)
      refine v_ast C 93 dX9_does_454 (by omega) hE203 (ti_in hx201 (by omega) (by omega)) (fun E205 hE205_93 oE205 => ?_)
      rw [ti_cl hx201] at hE205_93
      have hE205_68 := (oE205 68 (by decide)).trans hM200.2.2.1
      have hE205_89 := (oE205 89 (by decide)).trans hE198_89
      have hJ206 := hJ199.with (hJ199.1.2.1.setA rfl (by unfold PR; omega) hb203 (ti_any x204) hE205_93 oE205) (oE205 68 (by decide)) (oE205 69 (by decide)) (oE205 70 (by decide)) (fun j _ _ => oE205 j (by omega))
      have hM207 := hM200.of (oE205 68 (by decide)) (oE205 69 (by decide)) (oE205 70 (by decide))
      refine v_iconst (v := 1) C dX9_does_455 (by decide) ?_
      exact v_ret C dX9_does_456 rfl rfl ⟨Or.inr rfl, hJ206.toB (by decide) (by omega) (by omega)⟩
    · refine v_tableOut C 457 dX9_does_30 (by omega) (by decide) ?_
      have hnn := ned_2 (x := (fo (i.toInt).toNat).toInt) (by omega)
      have hdd := dlt_0 (x := (fo (i.toInt).toNat).toInt) (by omega)
      refine v_aload_n C 0 dX9_does_457 rfl rfl ?_
      refine v_getr C 68 dX9_does_458 fX9_97 (by omega) hM7.2.2.1 rfl rfl ?_
      refine v_iload_n C 3 dX9_does_461 rfl rfl ?_
      obtain ⟨f209, hE209, hb209⟩ := hJ6.1.2.1.getA (b := 92) (by omega) rfl
      refine v_ald (v := f209 (((im1 35).toInt - 1)).toNat) C 92 dX9_does_462 (by omega) hE209 (ti_in hx2 (by omega) (by omega)) (by rw [ti_cl hx2]) ?_
      refine v_top (fun x210 _ => ?_)
      refine v_istore (lv' := [(0, .ref (ad 68)), (1, .int i), (2, .int v), (3, .int x2), (4, .long y4), (7, .int x210)]) C [1, 2, 3, 4, 5, 0] dX9_does_463 (by decide) rfl ?_
      refine v_aload_n C 0 dX9_does_465 rfl rfl ?_
      refine v_getr C 68 dX9_does_466 fX9_97 (by omega) hM7.2.2.1 rfl rfl ?_
      refine v_iload_n C 3 dX9_does_469 rfl rfl ?_
      refine v_aload_n C 0 dX9_does_470 rfl rfl ?_
      refine v_getr C 68 dX9_does_471 fX9_97 (by omega) hM7.2.2.1 rfl rfl ?_
      refine v_iload_n C 3 dX9_does_474 rfl rfl ?_
      refine v_iconst (v := 1) C dX9_does_475 (by decide) ?_
      refine v_isub C dX9_does_476 ?_
      refine v_top (fun x211 ex211 => ?_)
      have hx211 : x211.toInt = (((im1 35).toInt - 1) - 1) := by rw [ex211]; exact ti_sub hx2 (show (1 : Int32).toInt = 1 by decide) (by omega) (by omega)
      refine v_ald (v := f209 ((((im1 35).toInt - 1) - 1)).toNat) C 92 dX9_does_477 (by omega) hE209 (ti_in hx211 (by omega) (by omega)) (by rw [ti_cl hx211]) ?_
      refine v_top (fun x212 _ => ?_)
      refine v_ast C 92 dX9_does_478 (by omega) hE209 (ti_in hx2 (by omega) (by omega)) (fun E213 hE213_92 oE213 => ?_)
      rw [ti_cl hx2] at hE213_92
      have hE213_68 := (oE213 68 (by decide)).trans hM7.2.2.1
      have hE213_89 := (oE213 89 (by decide)).trans hE8
      have hJ214 := hJ6.with (hJ6.1.2.1.setA rfl (by unfold PR; omega) hb209 (ti_any x212) hE213_92 oE213) (oE213 68 (by decide)) (oE213 69 (by decide)) (oE213 70 (by decide)) (fun j _ _ => oE213 j (by omega))
      have hM215 := hM7.of (oE213 68 (by decide)) (oE213 69 (by decide)) (oE213 70 (by decide))
      refine v_aload_n C 0 dX9_does_479 rfl rfl ?_
      refine v_getr C 68 dX9_does_480 fX9_97 (by omega) hM215.2.2.1 rfl rfl ?_
      refine v_iload_n C 3 dX9_does_483 rfl rfl ?_
      refine v_iconst (v := 1) C dX9_does_484 (by decide) ?_
      refine v_isub C dX9_does_485 ?_
      refine v_top (fun x216 ex216 => ?_)
      have hx216 : x216.toInt = (((im1 35).toInt - 1) - 1) := by rw [ex216]; exact ti_sub hx2 (show (1 : Int32).toInt = 1 by decide) (by omega) (by omega)
      refine v_iload C 5 dX9_does_486 rfl ?_
      obtain ⟨f218, hE218, hb218⟩ := hJ214.1.2.1.getA (b := 92) (by omega) rfl
      refine v_ast C 92 dX9_does_488 (by omega) hE218 (ti_in hx216 (by omega) (by omega)) (fun E219 hE219_92 oE219 => ?_)
      rw [ti_cl hx216] at hE219_92
      have hE219_68 := (oE219 68 (by decide)).trans hM215.2.2.1
      have hE219_89 := (oE219 89 (by decide)).trans hE213_89
      have hJ220 := hJ214.with (hJ214.1.2.1.setA rfl (by unfold PR; omega) hb218 (ti_any x210) hE219_92 oE219) (oE219 68 (by decide)) (oE219 69 (by decide)) (oE219 70 (by decide)) (fun j _ _ => oE219 j (by omega))
      have hM221 := hM215.of (oE219 68 (by decide)) (oE219 69 (by decide)) (oE219 70 (by decide))
      refine v_aload_n C 0 dX9_does_489 rfl rfl ?_
      refine v_getr C 68 dX9_does_490 fX9_100 (by omega) hM221.2.2.1 rfl rfl ?_
      refine v_iload_n C 3 dX9_does_493 rfl rfl ?_
      refine v_aload_n C 0 dX9_does_494 rfl rfl ?_
      refine v_getr C 68 dX9_does_495 fX9_100 (by omega) hM221.2.2.1 rfl rfl ?_
      refine v_iload_n C 3 dX9_does_498 rfl rfl ?_
      refine v_iconst (v := 1) C dX9_does_499 (by decide) ?_
      refine v_isub C dX9_does_500 ?_
      refine v_top (fun x222 ex222 => ?_)
      have hx222 : x222.toInt = (((im1 35).toInt - 1) - 1) := by rw [ex222]; exact ti_sub hx2 (show (1 : Int32).toInt = 1 by decide) (by omega) (by omega)
      obtain ⟨f224, hE224, hb224⟩ := hJ220.1.2.1.getA (b := 93) (by omega) rfl
      refine v_ald (v := f224 ((((im1 35).toInt - 1) - 1)).toNat) C 93 dX9_does_501 (by omega) hE224 (ti_in hx222 (by omega) (by omega)) (by rw [ti_cl hx222]) ?_
      refine v_top (fun x225 _ => ?_)
      refine v_ast C 93 dX9_does_502 (by omega) hE224 (ti_in hx2 (by omega) (by omega)) (fun E226 hE226_93 oE226 => ?_)
      rw [ti_cl hx2] at hE226_93
      have hE226_68 := (oE226 68 (by decide)).trans hM221.2.2.1
      have hE226_89 := (oE226 89 (by decide)).trans hE219_89
      have hJ227 := hJ220.with (hJ220.1.2.1.setA rfl (by unfold PR; omega) hb224 (ti_any x225) hE226_93 oE226) (oE226 68 (by decide)) (oE226 69 (by decide)) (oE226 70 (by decide)) (fun j _ _ => oE226 j (by omega))
      have hM228 := hM221.of (oE226 68 (by decide)) (oE226 69 (by decide)) (oE226 70 (by decide))
      refine v_aload_n C 0 dX9_does_503 rfl rfl ?_
      refine v_getr C 68 dX9_does_504 fX9_100 (by omega) hM228.2.2.1 rfl rfl ?_
      refine v_iload_n C 3 dX9_does_507 rfl rfl ?_
      refine v_iconst (v := 1) C dX9_does_508 (by decide) ?_
      refine v_isub C dX9_does_509 ?_
      refine v_top (fun x229 ex229 => ?_)
      have hx229 : x229.toInt = (((im1 35).toInt - 1) - 1) := by rw [ex229]; exact ti_sub hx2 (show (1 : Int32).toInt = 1 by decide) (by omega) (by omega)
      refine v_lload C 4 dX9_does_510 rfl ?_
      refine v_l2i C dX9_does_512 rfl ?_
      refine v_top (fun x230 _ => ?_)
      obtain ⟨f232, hE232, hb232⟩ := hJ227.1.2.1.getA (b := 93) (by omega) rfl
      refine v_ast C 93 dX9_does_513 (by omega) hE232 (ti_in hx229 (by omega) (by omega)) (fun E233 hE233_93 oE233 => ?_)
      rw [ti_cl hx229] at hE233_93
      have hE233_68 := (oE233 68 (by decide)).trans hM228.2.2.1
      have hE233_89 := (oE233 89 (by decide)).trans hE226_89
      have hJ234 := hJ227.with (hJ227.1.2.1.setA rfl (by unfold PR; omega) hb232 (ti_any x230) hE233_93 oE233) (oE233 68 (by decide)) (oE233 69 (by decide)) (oE233 70 (by decide)) (fun j _ _ => oE233 j (by omega))
      have hM235 := hM228.of (oE233 68 (by decide)) (oE233 69 (by decide)) (oE233 70 (by decide))
      refine v_iconst (v := 1) C dX9_does_514 (by decide) ?_
      exact v_ret C dX9_does_515 rfl rfl ⟨Or.inr rfl, hJ234.toB (by decide) (by omega) (by omega)⟩
  refine b_if_lt C 21 dX9_does_8 (by decide) hx2 (fun c236 => ?_) (fun c236 => ?_)
  · refine v_lconst (v := 0) C dX9_does_21 (by decide) ?_
    exact JN3 _ 0 hJ 
  · refine v_aload_n C 0 dX9_does_11 rfl rfl ?_
    refine v_getr C 68 dX9_does_12 fX9_100 (by omega) hM1.2.2.1 rfl rfl ?_
    refine v_iload_n C 3 dX9_does_15 rfl rfl ?_
    obtain ⟨f238, hE238, hb238⟩ := hJ.1.2.1.getA (b := 93) (by omega) rfl
    refine v_ald (v := f238 (((im1 35).toInt - 1)).toNat) C 93 dX9_does_16 (by omega) hE238 (ti_in hx2 (by omega) (by omega)) (by rw [ti_cl hx2]) ?_
    refine v_top (fun x239 _ => ?_)
    refine v_i2l C dX9_does_17 rfl ?_
    refine v_topl (fun x240 _ => ?_)
    refine v_goto C 22 dX9_does_18 (by decide) ?_
    exact JN3 _ x240 hJ 

set_option maxRecDepth 20000 in
theorem ty_X9_runs (l : Launch) (G : Gl) (ad : Nat → Nat) {Z : (Nat → va_E) → Prop} {kn : Int} {n : Nat} {ic md : Nat → Int32} {bd : Nat → Int × Int} {E0 E : Nat → va_E} {ab : Int × Int} (hJ : JY l Z kn G ad n ic md (upB bd 35 ab) PR E0 E) {fo fx : Nat → Int32} {m : Nat} (hfo : E0 89 = aI G 10 fo) (hfx : E0 90 = aI G 10 fx) (hm : m ≤ 10) (hok : okH fo m) (hox : OXm fo fx m) (hf32 : (m : Int) ≤ (bd 32).1 ∧ (bd 32).2 ≤ (m : Int)) (v : Int32) : CtI l G yX9_runs cX9_runs 4 .boolean 7 174 (n) ad E [.ref (ad 68), .int v] (fun r E' => (r = 0 ∨ r = 1) ∧ JY l Z kn G ad n ic md (upB bd 35 (0, 8)) PR E0 E') := by
  refine CtI.of (by decide) (Nat.le_of_ble_eq_true rfl) (fun X A C => ?_)
  refine v_sub (lv' := [(0, .ref (ad 68)), (1, .int v)]) [0, 1] rfl ?_
  have hn := hJ.hn
  have hz16 := upB_n16 (by decide) hJ.1.2.2.2.2
  have hg0 : hgt fo (Int32.toInt 0).toNat = 0 := by rw [show (Int32.toInt 0).toNat = 0 by decide]; rfl
  refine v_aload_n C 0 dX9_runs_0 rfl rfl ?_
  refine v_iconst (v := 0) C dX9_runs_1 (by decide) ?_
  obtain ⟨im1, hM1, hb1⟩ := hJ.1.1
  have hq1 := hM1.b
  refine v_puti C 68 dX9_runs_2 fX9_203 (by omega) hM1.2.2.1 rfl rfl rfl rfl (fun E2 hE2_68 oE2 => ?_)
  obtain ⟨hJ3, hM4, hb5⟩ := hJ.putB hM1 hb1 (k := 35) (v := (0 : Int32)) (by decide) (by unfold PR; omega) hE2_68 oE2
  have hlhJ3 : (0 : Int32).toInt = 0 := by decide
  refine v_iconst (v := 1) C dX9_runs_5 (by decide) ?_
  refine v_istore_n (lv' := [(0, .ref (ad 68)), (1, .int v), (2, .int 1)]) C [1, 2, 0] dX9_runs_6 rfl (by decide) rfl ?_
  refine v_iconst (v := 0) C dX9_runs_7 (by decide) ?_
  refine v_istore_n (lv' := [(0, .ref (ad 68)), (1, .int v), (2, .int 1), (3, .int 0)]) C [1, 2, 3, 0] dX9_runs_8 rfl (by decide) rfl ?_
  have LP6 : ∀ (t : Nat) (E12 : Nat → va_E) (y7 : Int32) (y8 : Int32), JY l Z kn G ad n ic md (upB bd 35 (hgt fo (y8.toInt).toNat, hgt fo (y8.toInt).toNat)) PR E0 E12 → ((0 : Int) ≤ y8.toInt ∧ y8.toInt ≤ 10) → (y8.toInt ≤ (m : Int)) → (y7 = 0 ∨ y7 = 1) → ((0 : Int) ≤ hgt fo (y8.toInt).toNat ∧ hgt fo (y8.toInt).toNat ≤ 8) → 11 - y8.toInt < (t : Int) → V X G A 4 (QI X G A (n) ad (fun r E' => (r = 0 ∨ r = 1) ∧ JY l Z kn G ad n ic md (upB bd 35 (0, 8)) PR E0 E')) n ad 0 0 E12 9 [(0, .ref (ad 68)), (1, .int v), (2, .int y7), (3, .int y8)] [] := by
    intro t16
    induction t16 with
    | zero => intro E12 y7 y8 hJ13 hy8 hq9 hq10 hq11 hm15; exfalso; omega
    | succ t16 ih14 =>
      intro E12 y7 y8 hJ13 hy8 hq9 hq10 hq11 hm15
      refine v_iload_n C 3 dX9_runs_9 rfl rfl ?_
      refine v_aload_n C 0 dX9_runs_10 rfl rfl ?_
      obtain ⟨im17, hM17, hb17⟩ := hJ13.1.1
      have hq17 := hM17.b
      refine v_geti (v := im17 32) C 68 dX9_runs_11 fX9_200 (by omega) hM17.2.2.1 rfl rfl ?_
      have him17_32r : (bd 32).1 ≤ (im17 32).toInt ∧ (im17 32).toInt ≤ (bd 32).2 := hb17 32
      have him17_32 : (m : Int) ≤ (im17 32).toInt ∧ (im17 32).toInt ≤ (m : Int) := by omega
      refine b_icmp_ge C 34 dX9_runs_14 (by decide) (rfl : Int32.toInt y8 = _) (rfl : Int32.toInt (im17 32) = _) (fun c18 => ?_) (fun c18 => ?_)
      · refine v_iload_n C 2 dX9_runs_34 rfl rfl ?_
        exact v_ret C dX9_runs_35 rfl (nb_01 hq10) ⟨hq10, hJ13.toB (by decide) (by omega) (by omega)⟩
      · refine v_iload_n C 2 dX9_runs_17 rfl rfl ?_
        refine b_if_eq C 34 dX9_runs_18 (by decide) (rfl : Int32.toInt y7 = _) (fun c19 => ?_) (fun c19 => ?_)
        · refine v_iload_n C 2 dX9_runs_34 rfl rfl ?_
          exact v_ret C dX9_runs_35 rfl (nb_01 hq10) ⟨hq10, hJ13.toB (by decide) (by omega) (by omega)⟩
        · refine v_aload_n C 0 dX9_runs_21 rfl rfl ?_
          refine v_iload_n C 3 dX9_runs_22 rfl rfl ?_
          refine v_iload_n C 1 dX9_runs_23 rfl rfl ?_
          refine v_cVi C dX9_runs_24 lX9_249 mX9_does 68 (by omega) hM17.2.2.1 (by decide) rfl (ty_X9_does l G ad hJ13 (show (0 : Int) ≤ hgt fo (y8.toInt).toNat ∧ hgt fo (y8.toInt).toNat ≤ 8 by omega) hfo hfx y8 (show (0 : Int) ≤ Int32.toInt y8 ∧ Int32.toInt y8 ≤ 9 by omega) v (hok _ (by omega)).1 (hok _ (by omega)).2 (hox _ (by omega))) ⟨by decide, by decide⟩ rfl (Nat.le_of_ble_eq_true rfl) ⟨Nat.zero_le _, Nat.zero_le _⟩ (fun r20 E21 hp22 => ?_)
          obtain ⟨hp22, hJ23⟩ := hp22
          rcases hp22 with rfl | rfl
          · refine v_istore_n (lv' := [(0, .ref (ad 68)), (1, .int v), (2, .int 0), (3, .int y8)]) C [1, 2, 0, 3] dX9_runs_27 rfl (by decide) rfl ?_
            obtain ⟨x24, ex24⟩ : ∃ y : Int32, y = y8 + 1 := ⟨_, rfl⟩
            have hx24 : x24.toInt = (y8.toInt + 1) := by rw [ex24]; exact ti_add (rfl : Int32.toInt y8 = _) (show (1 : Int32).toInt = 1 by decide) (by omega) (by omega)
            refine v_iinc (v := x24) (lv' := [(0, .ref (ad 68)), (1, .int v), (2, .int 0), (3, .int x24)]) C 3 [1, 2, 3, 0] dX9_runs_28 rfl (ex24.symm) (by decide) rfl ?_
            have hS25 : hgt fo (x24.toInt).toNat = hgt fo (y8.toInt).toNat + dlt (fo (y8.toInt).toNat).toInt := by rw [show (x24.toInt).toNat = (y8.toInt).toNat + 1 by omega]; rfl
            have hS25b := dn_b (fo (y8.toInt).toNat).toInt
            have hS25k := hok (y8.toInt).toNat (by omega)
            refine v_goto C 9 dX9_runs_31 (by decide) ?_
            exact ih14 _ 0 x24 (hJ23.toB (by decide) (by have := (show (0 : Int32).toInt = 0 by decide); have := hx24; omega) (by have := (show (0 : Int32).toInt = 0 by decide); have := hx24; omega)) (by have := (show (0 : Int32).toInt = 0 by decide); have := hx24; omega) (by have := (show (0 : Int32).toInt = 0 by decide); have := hx24; omega) (by decide) (by have := (show (0 : Int32).toInt = 0 by decide); have := hx24; omega) (by have := (show (0 : Int32).toInt = 0 by decide); have := hx24; omega)
          · refine v_istore_n (lv' := [(0, .ref (ad 68)), (1, .int v), (2, .int 1), (3, .int y8)]) C [1, 2, 0, 3] dX9_runs_27 rfl (by decide) rfl ?_
            obtain ⟨x26, ex26⟩ : ∃ y : Int32, y = y8 + 1 := ⟨_, rfl⟩
            have hx26 : x26.toInt = (y8.toInt + 1) := by rw [ex26]; exact ti_add (rfl : Int32.toInt y8 = _) (show (1 : Int32).toInt = 1 by decide) (by omega) (by omega)
            refine v_iinc (v := x26) (lv' := [(0, .ref (ad 68)), (1, .int v), (2, .int 1), (3, .int x26)]) C 3 [1, 2, 3, 0] dX9_runs_28 rfl (ex26.symm) (by decide) rfl ?_
            have hS27 : hgt fo (x26.toInt).toNat = hgt fo (y8.toInt).toNat + dlt (fo (y8.toInt).toNat).toInt := by rw [show (x26.toInt).toNat = (y8.toInt).toNat + 1 by omega]; rfl
            have hS27b := dn_b (fo (y8.toInt).toNat).toInt
            have hS27k := hok (y8.toInt).toNat (by omega)
            refine v_goto C 9 dX9_runs_31 (by decide) ?_
            exact ih14 _ 1 x26 (hJ23.toB (by decide) (by have := (show (1 : Int32).toInt = 1 by decide); have := hx26; omega) (by have := (show (1 : Int32).toInt = 1 by decide); have := hx26; omega)) (by have := (show (1 : Int32).toInt = 1 by decide); have := hx26; omega) (by have := (show (1 : Int32).toInt = 1 by decide); have := hx26; omega) (by decide) (by have := (show (1 : Int32).toInt = 1 by decide); have := hx26; omega) (by have := (show (1 : Int32).toInt = 1 by decide); have := hx26; omega)
  exact LP6 100000 _ 1 0 (hJ3.toB (by decide) (by have := (show (1 : Int32).toInt = 1 by decide); have := (show (0 : Int32).toInt = 0 by decide); omega) (by have := (show (1 : Int32).toInt = 1 by decide); have := (show (0 : Int32).toInt = 0 by decide); omega)) (by have := (show (1 : Int32).toInt = 1 by decide); have := (show (0 : Int32).toInt = 0 by decide); omega) (by have := (show (1 : Int32).toInt = 1 by decide); have := (show (0 : Int32).toInt = 0 by decide); omega) (by decide) (by have := (show (1 : Int32).toInt = 1 by decide); have := (show (0 : Int32).toInt = 0 by decide); omega) (by have := (show (1 : Int32).toInt = 1 by decide); have := (show (0 : Int32).toInt = 0 by decide); omega)

set_option maxRecDepth 20000 in
theorem ty_X9_take (l : Launch) (G : Gl) (ad : Nat → Nat) {Z : (Nat → va_E) → Prop} {kn : Int} {n : Nat} {ic md : Nat → Int32} {bd : Nat → Int × Int} {E0 E : Nat → va_E} (hJ : JY l Z kn G ad n ic md bd PT E0 E) {gop gx gy fl : Nat → Int32} (hgo : E0 85 = aI G 60 gop) (hgx : E0 86 = aI G 60 gx) (hgy : E0 87 = aI G 60 gy) (hgl : E0 88 = aI G 6 fl) (hbl : ∀ k, 0 ≤ (fl k).toInt ∧ (fl k).toInt ≤ 10) (x : Int32) (hx : (0 : Int) ≤ x.toInt ∧ x.toInt ≤ 5) : CtV l G yX9_take cX9_take 3 0 0 (n) ad E [.ref (ad 68), .int x] (fun E' => ∃ fo fx fy : Nat → Int32, E' 89 = aI G 10 fo ∧ E' 90 = aI G 10 fx ∧ E' 91 = aI G 10 fy ∧ (∀ j, j < ((fl (x.toInt).toNat).toInt).toNat → fo j = gop (10 * (x.toInt).toNat + j) ∧ fx j = gx (10 * (x.toInt).toNat + j) ∧ fy j = gy (10 * (x.toInt).toNat + j)) ∧ JY l Z kn G ad n ic md (upB bd 32 ((fl (x.toInt).toNat).toInt, (fl (x.toInt).toNat).toInt)) PT E0 E') := by
  refine CtV.of (by decide) (Nat.le_of_ble_eq_true rfl) (fun X A C => ?_)
  refine v_sub (lv' := [(0, .ref (ad 68)), (1, .int x)]) [0, 1] rfl ?_
  have hn := hJ.hn
  have hz16 := hJ.1.2.2.2.2
  refine v_aload_n C 0 dX9_take_0 rfl rfl ?_
  refine v_aload_n C 0 dX9_take_1 rfl rfl ?_
  obtain ⟨im1, hM1, hb1⟩ := hJ.1.1
  have hq1 := hM1.b
  refine v_getr C 68 dX9_take_2 fX9_85 (by omega) hM1.2.2.1 rfl rfl ?_
  refine v_iload_n C 1 dX9_take_5 rfl rfl ?_
  have hE2 := (hJ.1.2.1.1 88 (by unfold PT; omega)).trans hgl
  refine v_ald (v := fl (x.toInt).toNat) C 88 dX9_take_6 (by omega) hE2 (ti_in (rfl : Int32.toInt x = _) (by omega) (by omega)) (by rw [ti_cl (rfl : Int32.toInt x = _)]) ?_
  have := hbl ((x.toInt).toNat)
  refine v_puti C 68 dX9_take_7 fX9_200 (by omega) hM1.2.2.1 rfl rfl rfl rfl (fun E3 hE3_68 oE3 => ?_)
  have hE3_88 := (oE3 88 (by decide)).trans hE2
  obtain ⟨hJ4, hM5, hb6⟩ := hJ.putN hM1 hb1 (k := 32) (v := (fl (x.toInt).toNat)) (by decide) (by unfold PT; omega) hE3_68 oE3
  refine v_iconst (v := 0) C dX9_take_10 (by decide) ?_
  refine v_istore_n (lv' := [(0, .ref (ad 68)), (1, .int x), (2, .int 0)]) C [1, 2, 0] dX9_take_11 rfl (by decide) rfl ?_
  have LP7 : ∀ (t : Nat) (E11 : Nat → va_E) (y8 : Int32), JY l Z kn G ad n ic md (upB bd 32 ((fl (x.toInt).toNat).toInt, (fl (x.toInt).toNat).toInt)) PT E0 E11 → ((0 : Int) ≤ y8.toInt ∧ y8.toInt ≤ 10) → (y8.toInt ≤ (fl (x.toInt).toNat).toInt) → (TK G gop gx gy (10 * (x.toInt).toNat) E11 (y8.toInt).toNat) → 11 - y8.toInt < (t : Int) → V X G A 3 (QV X G A (n) ad (fun E' => ∃ fo fx fy : Nat → Int32, E' 89 = aI G 10 fo ∧ E' 90 = aI G 10 fx ∧ E' 91 = aI G 10 fy ∧ (∀ j, j < ((fl (x.toInt).toNat).toInt).toNat → fo j = gop (10 * (x.toInt).toNat + j) ∧ fx j = gx (10 * (x.toInt).toNat + j) ∧ fy j = gy (10 * (x.toInt).toNat + j)) ∧ JY l Z kn G ad n ic md (upB bd 32 ((fl (x.toInt).toNat).toInt, (fl (x.toInt).toNat).toInt)) PT E0 E')) n ad 0 0 E11 12 [(0, .ref (ad 68)), (1, .int x), (2, .int y8)] [] := by
    intro t15
    induction t15 with
    | zero => intro E11 y8 hJ12 hy8 hq9 hq10 hm14; exfalso; omega
    | succ t15 ih13 =>
      intro E11 y8 hJ12 hy8 hq9 hq10 hm14
      refine v_iload_n C 2 dX9_take_12 rfl rfl ?_
      refine v_aload_n C 0 dX9_take_13 rfl rfl ?_
      obtain ⟨im16, hM16, hb16⟩ := hJ12.1.1
      have hq16 := hM16.b
      refine v_geti (v := im16 32) C 68 dX9_take_14 fX9_200 (by omega) hM16.2.2.1 rfl rfl ?_
      have him16_32 : ((fl (x.toInt).toNat).toInt : Int) ≤ (im16 32).toInt ∧ (im16 32).toInt ≤ (fl (x.toInt).toNat).toInt := hb16 32
      refine b_icmp_ge C 77 dX9_take_17 (by decide) (rfl : Int32.toInt y8 = _) (rfl : Int32.toInt (im16 32) = _) (fun c17 => ?_) (fun c17 => ?_)
      · obtain ⟨fo, hfo, -⟩ := hJ12.1.2.1.getA (b := 89) (by omega) rfl
        obtain ⟨fx, hfx, -⟩ := hJ12.1.2.1.getA (b := 90) (by omega) rfl
        obtain ⟨fy, hfy, -⟩ := hJ12.1.2.1.getA (b := 91) (by omega) rfl
        exact v_vret C dX9_take_77 rfl ⟨fo, fx, fy, hfo, hfx, hfy, (fun j hj => hq10 fo fx fy hfo hfx hfy j (by omega)), hJ12⟩
      · refine v_aload_n C 0 dX9_take_20 rfl rfl ?_
        refine v_getr C 68 dX9_take_21 fX9_88 (by omega) hM16.2.2.1 rfl rfl ?_
        refine v_iload_n C 2 dX9_take_24 rfl rfl ?_
        refine v_aload_n C 0 dX9_take_25 rfl rfl ?_
        refine v_getr C 68 dX9_take_26 fX9_76 (by omega) hM16.2.2.1 rfl rfl ?_
        refine v_bipush (v := 10) C dX9_take_29 (by decide) ?_
        refine v_iload_n C 1 dX9_take_31 rfl rfl ?_
        refine v_imul C dX9_take_32 ?_
        refine v_top (fun x18 ex18 => ?_)
        have hx18 : x18.toInt = (10 * x.toInt) := by rw [ex18]; exact ti_mul (show (10 : Int32).toInt = 10 by decide) (rfl : Int32.toInt x = _) (by omega) (by omega)
        refine v_iload_n C 2 dX9_take_33 rfl rfl ?_
        refine v_iadd C dX9_take_34 ?_
        refine v_top (fun x19 ex19 => ?_)
        have hx19 : x19.toInt = ((10 * x.toInt) + y8.toInt) := by rw [ex19]; exact ti_add hx18 (rfl : Int32.toInt y8 = _) (by omega) (by omega)
        have hE20 := (hJ12.1.2.1.1 85 (by unfold PT; omega)).trans hgo
        refine v_ald (v := gop (((10 * x.toInt) + y8.toInt)).toNat) C 85 dX9_take_35 (by omega) hE20 (ti_in hx19 (by omega) (by omega)) (by rw [ti_cl hx19]) ?_
        obtain ⟨f22, hE22, hb22⟩ := hJ12.1.2.1.getA (b := 89) (by omega) rfl
        refine v_ast C 89 dX9_take_36 (by omega) hE22 (ti_in (rfl : Int32.toInt y8 = _) (by omega) (by omega)) (fun E23 hE23_89 oE23 => ?_)
        rw [ti_cl (rfl : Int32.toInt y8 = _)] at hE23_89
        have hE23_68 := (oE23 68 (by decide)).trans hM16.2.2.1
        have hE23_85 := (oE23 85 (by decide)).trans hE20
        have hJ24 := hJ12.with (hJ12.1.2.1.setA rfl (by unfold PT; omega) hb22 (ti_any (gop (((10 * x.toInt) + y8.toInt)).toNat)) hE23_89 oE23) (oE23 68 (by decide)) (oE23 69 (by decide)) (oE23 70 (by decide)) (fun j _ _ => oE23 j (by omega))
        have hM25 := hM16.of (oE23 68 (by decide)) (oE23 69 (by decide)) (oE23 70 (by decide))
        refine v_aload_n C 0 dX9_take_37 rfl rfl ?_
        refine v_getr C 68 dX9_take_38 fX9_91 (by omega) hM25.2.2.1 rfl rfl ?_
        refine v_iload_n C 2 dX9_take_41 rfl rfl ?_
        refine v_aload_n C 0 dX9_take_42 rfl rfl ?_
        refine v_getr C 68 dX9_take_43 fX9_79 (by omega) hM25.2.2.1 rfl rfl ?_
        refine v_bipush (v := 10) C dX9_take_46 (by decide) ?_
        refine v_iload_n C 1 dX9_take_48 rfl rfl ?_
        refine v_imul C dX9_take_49 ?_
        refine v_top (fun x26 ex26 => ?_)
        have hx26 : x26.toInt = (10 * x.toInt) := by rw [ex26]; exact ti_mul (show (10 : Int32).toInt = 10 by decide) (rfl : Int32.toInt x = _) (by omega) (by omega)
        refine v_iload_n C 2 dX9_take_50 rfl rfl ?_
        refine v_iadd C dX9_take_51 ?_
        refine v_top (fun x27 ex27 => ?_)
        have hx27 : x27.toInt = ((10 * x.toInt) + y8.toInt) := by rw [ex27]; exact ti_add hx26 (rfl : Int32.toInt y8 = _) (by omega) (by omega)
        have hE28 := (hJ24.1.2.1.1 86 (by unfold PT; omega)).trans hgx
        refine v_ald (v := gx (((10 * x.toInt) + y8.toInt)).toNat) C 86 dX9_take_52 (by omega) hE28 (ti_in hx27 (by omega) (by omega)) (by rw [ti_cl hx27]) ?_
        obtain ⟨f30, hE30, hb30⟩ := hJ24.1.2.1.getA (b := 90) (by omega) rfl
        refine v_ast C 90 dX9_take_53 (by omega) hE30 (ti_in (rfl : Int32.toInt y8 = _) (by omega) (by omega)) (fun E31 hE31_90 oE31 => ?_)
        rw [ti_cl (rfl : Int32.toInt y8 = _)] at hE31_90
        have hE31_68 := (oE31 68 (by decide)).trans hM25.2.2.1
        have hE31_85 := (oE31 85 (by decide)).trans hE23_85
        have hE31_86 := (oE31 86 (by decide)).trans hE28
        have hJ32 := hJ24.with (hJ24.1.2.1.setA rfl (by unfold PT; omega) hb30 (ti_any (gx (((10 * x.toInt) + y8.toInt)).toNat)) hE31_90 oE31) (oE31 68 (by decide)) (oE31 69 (by decide)) (oE31 70 (by decide)) (fun j _ _ => oE31 j (by omega))
        have hM33 := hM25.of (oE31 68 (by decide)) (oE31 69 (by decide)) (oE31 70 (by decide))
        refine v_aload_n C 0 dX9_take_54 rfl rfl ?_
        refine v_getr C 68 dX9_take_55 fX9_94 (by omega) hM33.2.2.1 rfl rfl ?_
        refine v_iload_n C 2 dX9_take_58 rfl rfl ?_
        refine v_aload_n C 0 dX9_take_59 rfl rfl ?_
        refine v_getr C 68 dX9_take_60 fX9_82 (by omega) hM33.2.2.1 rfl rfl ?_
        refine v_bipush (v := 10) C dX9_take_63 (by decide) ?_
        refine v_iload_n C 1 dX9_take_65 rfl rfl ?_
        refine v_imul C dX9_take_66 ?_
        refine v_top (fun x34 ex34 => ?_)
        have hx34 : x34.toInt = (10 * x.toInt) := by rw [ex34]; exact ti_mul (show (10 : Int32).toInt = 10 by decide) (rfl : Int32.toInt x = _) (by omega) (by omega)
        refine v_iload_n C 2 dX9_take_67 rfl rfl ?_
        refine v_iadd C dX9_take_68 ?_
        refine v_top (fun x35 ex35 => ?_)
        have hx35 : x35.toInt = ((10 * x.toInt) + y8.toInt) := by rw [ex35]; exact ti_add hx34 (rfl : Int32.toInt y8 = _) (by omega) (by omega)
        have hE36 := (hJ32.1.2.1.1 87 (by unfold PT; omega)).trans hgy
        refine v_ald (v := gy (((10 * x.toInt) + y8.toInt)).toNat) C 87 dX9_take_69 (by omega) hE36 (ti_in hx35 (by omega) (by omega)) (by rw [ti_cl hx35]) ?_
        obtain ⟨f38, hE38, hb38⟩ := hJ32.1.2.1.getA (b := 91) (by omega) rfl
        refine v_ast C 91 dX9_take_70 (by omega) hE38 (ti_in (rfl : Int32.toInt y8 = _) (by omega) (by omega)) (fun E39 hE39_91 oE39 => ?_)
        rw [ti_cl (rfl : Int32.toInt y8 = _)] at hE39_91
        have hE39_68 := (oE39 68 (by decide)).trans hM33.2.2.1
        have hE39_85 := (oE39 85 (by decide)).trans hE31_85
        have hE39_86 := (oE39 86 (by decide)).trans hE31_86
        have hE39_87 := (oE39 87 (by decide)).trans hE36
        have hJ40 := hJ32.with (hJ32.1.2.1.setA rfl (by unfold PT; omega) hb38 (ti_any (gy (((10 * x.toInt) + y8.toInt)).toNat)) hE39_91 oE39) (oE39 68 (by decide)) (oE39 69 (by decide)) (oE39 70 (by decide)) (fun j _ _ => oE39 j (by omega))
        have hM41 := hM33.of (oE39 68 (by decide)) (oE39 69 (by decide)) (oE39 70 (by decide))
        obtain ⟨x42, ex42⟩ : ∃ y : Int32, y = y8 + 1 := ⟨_, rfl⟩
        have hx42 : x42.toInt = (y8.toInt + 1) := by rw [ex42]; exact ti_add (rfl : Int32.toInt y8 = _) (show (1 : Int32).toInt = 1 by decide) (by omega) (by omega)
        refine v_iinc (v := x42) (lv' := [(0, .ref (ad 68)), (1, .int x), (2, .int x42)]) C 2 [1, 2, 0] dX9_take_71 rfl (ex42.symm) (by decide) rfl ?_
        refine v_goto C 12 dX9_take_74 (by decide) ?_
        exact ih13 _ x42 hJ40 (by have := hx42; omega) (by have := hx42; omega) (by rw [show (x42.toInt).toNat = (y8.toInt).toNat + 1 by omega]; exact TK_s hq10 hE22 hE23_89 oE23 hE30 hE31_90 oE31 hE38 hE39_91 oE39 (congrArg gop (by omega)) (congrArg gx (by omega)) (congrArg gy (by omega))) (by have := hx42; omega)
  exact LP7 100000 _ 0 hJ4 (by have := (show (0 : Int32).toInt = 0 by decide); omega) (by have := (show (0 : Int32).toInt = 0 by decide); omega) (by rw [show (Int32.toInt 0).toNat = 0 by decide]; exact TK_0) (by have := (show (0 : Int32).toInt = 0 by decide); omega)

set_option maxRecDepth 20000 in
theorem ty_X9_isLaw (l : Launch) (G : Gl) (ad : Nat → Nat) {Z : (Nat → va_E) → Prop} {kn : Int} {n : Nat} {ic md : Nat → Int32} {bd : Nat → Int × Int} {E0 E : Nat → va_E} (hJ : JY l Z kn G ad n ic md bd PR E0 E) (x : Int32) (y : Int32) : CtI l G yX9_isLaw cX9_isLaw 3 .boolean 1 22 (n) ad E [.ref (ad 68), .int x, .int y] (fun r E' => ((r = 1 ∧ (0 ≤ x.toInt ∧ ((x.toInt % 10 = 1 ∨ x.toInt % 10 = 2) → x.toInt / 10 ≤ 4))) ∨ (r = 0 ∧ (0 : Int) ≤ 1)) ∧ E = E') := by
  refine CtI.of (by decide) (Nat.le_of_ble_eq_true rfl) (fun X A C => ?_)
  refine v_sub (lv' := [(0, .ref (ad 68)), (1, .int x), (2, .int y)]) [0, 1, 2] rfl ?_
  have hn := hJ.hn
  have hz16 := hJ.1.2.2.2.2
  refine v_iload_n C 1 dX9_isLaw_0 rfl rfl ?_
  refine b_if_ge C 6 dX9_isLaw_1 (by decide) (rfl : Int32.toInt x = _) (fun c1 => ?_) (fun c1 => ?_)
  · refine v_iload_n C 1 dX9_isLaw_6 rfl rfl ?_
    refine v_bipush (v := 10) C dX9_isLaw_7 (by decide) ?_
    refine v_irem C dX9_isLaw_9 (by decide) ?_
    have := ti_any x
    refine v_top (fun x2 ex2 => ?_)
    have hx2 : x2.toInt = (x.toInt % 10) := by rw [ex2]; exact ti_rem (rfl : Int32.toInt x = _) (show (10 : Int32).toInt = 10 by decide) (by omega) (by omega)
    have q3v : Int32.toInt x2 = (x.toInt % 10) := hx2
    rcases (show (x.toInt % 10) = 0 ∨ (x.toInt % 10) = 1 ∨ (x.toInt % 10) = 2 ∨ (x.toInt % 10) = 3 ∨ (x.toInt % 10) = 4 ∨ ((x.toInt % 10) < 0 ∨ 4 < (x.toInt % 10)) by omega) with q3 | q3 | q3 | q3 | q3 | q3
    · refine v_tableIn (off := 34) C 44 dX9_isLaw_10 (by omega) (by omega) (by rw [q3v, q3]; rfl) (by decide) ?_
      refine v_iload_n C 1 dX9_isLaw_44 rfl rfl ?_
      refine v_bipush (v := 10) C dX9_isLaw_45 (by decide) ?_
      refine v_idiv C dX9_isLaw_47 (by decide) ?_
      have := ti_any x
      refine v_top (fun x4 ex4 => ?_)
      have hx4 : x4.toInt = (x.toInt / 10) := by rw [ex4]; exact ti_div (rfl : Int32.toInt x = _) (show (10 : Int32).toInt = 10 by decide) (by omega) (by omega)
      refine b_if_ne C 55 dX9_isLaw_48 (by decide) hx4 (fun c5 => ?_) (fun c5 => ?_)
      · refine v_iconst (v := 0) C dX9_isLaw_55 (by decide) ?_
        exact v_ret C dX9_isLaw_56 rfl rfl ⟨Or.inr ⟨rfl, by omega⟩, rfl⟩
      · refine v_iconst (v := 1) C dX9_isLaw_51 (by decide) ?_
        refine v_goto C 56 dX9_isLaw_52 (by decide) ?_
        exact v_ret C dX9_isLaw_56 rfl rfl ⟨Or.inl ⟨rfl, by omega⟩, rfl⟩
    · refine v_tableIn (off := 47) C 57 dX9_isLaw_10 (by omega) (by omega) (by rw [q3v, q3]; rfl) (by decide) ?_
      refine v_aload_n C 0 dX9_isLaw_57 rfl rfl ?_
      refine v_iload_n C 1 dX9_isLaw_58 rfl rfl ?_
      refine v_bipush (v := 10) C dX9_isLaw_59 (by decide) ?_
      refine v_idiv C dX9_isLaw_61 (by decide) ?_
      have := ti_any x
      refine v_top (fun x6 ex6 => ?_)
      have hx6 : x6.toInt = (x.toInt / 10) := by rw [ex6]; exact ti_div (rfl : Int32.toInt x = _) (show (10 : Int32).toInt = 10 by decide) (by omega) (by omega)
      obtain ⟨im9, hM9, hb9⟩ := hJ.1.1
      have hq9 := hM9.b
      refine v_cVp C dX9_isLaw_62 lX9_162 mX9_isZone 68 (by omega) hM9.2.2.1 (by decide) rfl (ty_X9_isZone l G ad hJ x6) ⟨by decide, by decide⟩ rfl (Nat.le_of_ble_eq_true rfl) ⟨Nat.zero_le _, Nat.zero_le _⟩ (fun r7 hp8 => ?_)
      rcases hp8 with ⟨rfl, hp8⟩ | ⟨rfl, hp8⟩
      · refine b_if_eq C 83 dX9_isLaw_65 (by decide) (show (1 : Int32).toInt = 1 by decide) (fun c10 => absurd c10 (by decide)) (fun c10 => ?_)
        refine v_iload_n C 2 dX9_isLaw_68 rfl rfl ?_
        refine v_iconst (v := 0) C dX9_isLaw_69 (by decide) ?_
        refine v_sipush (v := 1439) C dX9_isLaw_70 (by decide) ?_
        refine v_cSp C dX9_isLaw_73 lX9_131 mX9_within (ty_X9_within l G ad hJ y 0 1439) ⟨by decide, by decide⟩ rfl (Nat.le_of_ble_eq_true rfl) ⟨Nat.zero_le _, Nat.zero_le _⟩ (fun r11 hp12 => ?_)
        have := (show (0 : Int32).toInt = 0 by decide)
        have := (show (1439 : Int32).toInt = 1439 by decide)
        rcases hp12 with ⟨rfl, hp12⟩ | ⟨rfl, hp12⟩
        · refine b_if_eq C 83 dX9_isLaw_76 (by decide) (show (1 : Int32).toInt = 1 by decide) (fun c13 => absurd c13 (by decide)) (fun c13 => ?_)
          refine v_iconst (v := 1) C dX9_isLaw_79 (by decide) ?_
          refine v_goto C 84 dX9_isLaw_80 (by decide) ?_
          exact v_ret C dX9_isLaw_84 rfl rfl ⟨Or.inl ⟨rfl, by omega⟩, rfl⟩
        · refine b_if_eq C 83 dX9_isLaw_76 (by decide) (show (0 : Int32).toInt = 0 by decide) (fun c14 => ?_) (fun c14 => absurd c14 (by decide))
          refine v_iconst (v := 0) C dX9_isLaw_83 (by decide) ?_
          exact v_ret C dX9_isLaw_84 rfl rfl ⟨Or.inr ⟨rfl, by omega⟩, rfl⟩
      · refine b_if_eq C 83 dX9_isLaw_65 (by decide) (show (0 : Int32).toInt = 0 by decide) (fun c15 => ?_) (fun c15 => absurd c15 (by decide))
        refine v_iconst (v := 0) C dX9_isLaw_83 (by decide) ?_
        exact v_ret C dX9_isLaw_84 rfl rfl ⟨Or.inr ⟨rfl, by omega⟩, rfl⟩
    · refine v_tableIn (off := 75) C 85 dX9_isLaw_10 (by omega) (by omega) (by rw [q3v, q3]; rfl) (by decide) ?_
      refine v_aload_n C 0 dX9_isLaw_85 rfl rfl ?_
      refine v_iload_n C 1 dX9_isLaw_86 rfl rfl ?_
      refine v_bipush (v := 10) C dX9_isLaw_87 (by decide) ?_
      refine v_idiv C dX9_isLaw_89 (by decide) ?_
      have := ti_any x
      refine v_top (fun x16 ex16 => ?_)
      have hx16 : x16.toInt = (x.toInt / 10) := by rw [ex16]; exact ti_div (rfl : Int32.toInt x = _) (show (10 : Int32).toInt = 10 by decide) (by omega) (by omega)
      obtain ⟨im19, hM19, hb19⟩ := hJ.1.1
      have hq19 := hM19.b
      refine v_cVp C dX9_isLaw_90 lX9_162 mX9_isZone 68 (by omega) hM19.2.2.1 (by decide) rfl (ty_X9_isZone l G ad hJ x16) ⟨by decide, by decide⟩ rfl (Nat.le_of_ble_eq_true rfl) ⟨Nat.zero_le _, Nat.zero_le _⟩ (fun r17 hp18 => ?_)
      rcases hp18 with ⟨rfl, hp18⟩ | ⟨rfl, hp18⟩
      · refine b_if_eq C 104 dX9_isLaw_93 (by decide) (show (1 : Int32).toInt = 1 by decide) (fun c20 => absurd c20 (by decide)) (fun c20 => ?_)
        refine v_iload_n C 2 dX9_isLaw_96 rfl rfl ?_
        refine b_if_ne C 104 dX9_isLaw_97 (by decide) (rfl : Int32.toInt y = _) (fun c21 => ?_) (fun c21 => ?_)
        · refine v_iconst (v := 0) C dX9_isLaw_104 (by decide) ?_
          exact v_ret C dX9_isLaw_105 rfl rfl ⟨Or.inr ⟨rfl, by omega⟩, rfl⟩
        · refine v_iconst (v := 1) C dX9_isLaw_100 (by decide) ?_
          refine v_goto C 105 dX9_isLaw_101 (by decide) ?_
          exact v_ret C dX9_isLaw_105 rfl rfl ⟨Or.inl ⟨rfl, by omega⟩, rfl⟩
      · refine b_if_eq C 104 dX9_isLaw_93 (by decide) (show (0 : Int32).toInt = 0 by decide) (fun c22 => ?_) (fun c22 => absurd c22 (by decide))
        refine v_iconst (v := 0) C dX9_isLaw_104 (by decide) ?_
        exact v_ret C dX9_isLaw_105 rfl rfl ⟨Or.inr ⟨rfl, by omega⟩, rfl⟩
    · refine v_tableIn (off := 34) C 44 dX9_isLaw_10 (by omega) (by omega) (by rw [q3v, q3]; rfl) (by decide) ?_
      refine v_iload_n C 1 dX9_isLaw_44 rfl rfl ?_
      refine v_bipush (v := 10) C dX9_isLaw_45 (by decide) ?_
      refine v_idiv C dX9_isLaw_47 (by decide) ?_
      have := ti_any x
      refine v_top (fun x23 ex23 => ?_)
      have hx23 : x23.toInt = (x.toInt / 10) := by rw [ex23]; exact ti_div (rfl : Int32.toInt x = _) (show (10 : Int32).toInt = 10 by decide) (by omega) (by omega)
      refine b_if_ne C 55 dX9_isLaw_48 (by decide) hx23 (fun c24 => ?_) (fun c24 => ?_)
      · refine v_iconst (v := 0) C dX9_isLaw_55 (by decide) ?_
        exact v_ret C dX9_isLaw_56 rfl rfl ⟨Or.inr ⟨rfl, by omega⟩, rfl⟩
      · refine v_iconst (v := 1) C dX9_isLaw_51 (by decide) ?_
        refine v_goto C 56 dX9_isLaw_52 (by decide) ?_
        exact v_ret C dX9_isLaw_56 rfl rfl ⟨Or.inl ⟨rfl, by omega⟩, rfl⟩
    · refine v_tableIn (off := 96) C 106 dX9_isLaw_10 (by omega) (by omega) (by rw [q3v, q3]; rfl) (by decide) ?_
      refine v_iload_n C 1 dX9_isLaw_106 rfl rfl ?_
      refine v_bipush (v := 10) C dX9_isLaw_107 (by decide) ?_
      refine v_idiv C dX9_isLaw_109 (by decide) ?_
      have := ti_any x
      refine v_top (fun x25 ex25 => ?_)
      have hx25 : x25.toInt = (x.toInt / 10) := by rw [ex25]; exact ti_div (rfl : Int32.toInt x = _) (show (10 : Int32).toInt = 10 by decide) (by omega) (by omega)
      refine b_if_ne C 121 dX9_isLaw_110 (by decide) hx25 (fun c26 => ?_) (fun c26 => ?_)
      · refine v_iconst (v := 0) C dX9_isLaw_121 (by decide) ?_
        exact v_ret C dX9_isLaw_122 rfl rfl ⟨Or.inr ⟨rfl, by omega⟩, rfl⟩
      · refine v_iload_n C 2 dX9_isLaw_113 rfl rfl ?_
        refine b_if_ne C 121 dX9_isLaw_114 (by decide) (rfl : Int32.toInt y = _) (fun c27 => ?_) (fun c27 => ?_)
        · refine v_iconst (v := 0) C dX9_isLaw_121 (by decide) ?_
          exact v_ret C dX9_isLaw_122 rfl rfl ⟨Or.inr ⟨rfl, by omega⟩, rfl⟩
        · refine v_iconst (v := 1) C dX9_isLaw_117 (by decide) ?_
          refine v_goto C 122 dX9_isLaw_118 (by decide) ?_
          exact v_ret C dX9_isLaw_122 rfl rfl ⟨Or.inl ⟨rfl, by omega⟩, rfl⟩
    · refine v_tableOut C 123 dX9_isLaw_10 (by omega) (by decide) ?_
      refine v_iconst (v := 0) C dX9_isLaw_123 (by decide) ?_
      exact v_ret C dX9_isLaw_124 rfl rfl ⟨Or.inr ⟨rfl, by omega⟩, rfl⟩
  · refine v_iconst (v := 0) C dX9_isLaw_4 (by decide) ?_
    exact v_ret C dX9_isLaw_5 rfl rfl ⟨Or.inr ⟨rfl, by omega⟩, rfl⟩

set_option maxRecDepth 20000 in
theorem ty_X9_wallOf (l : Launch) (G : Gl) (ad : Nat → Nat) {Z : (Nat → va_E) → Prop} {kn : Int} {n : Nat} {ic md : Nat → Int32} {bd : Nat → Int × Int} {E0 E : Nat → va_E} (hJ : JY l Z kn G ad n ic md bd PR E0 E) (x : Int32) (hx : (0 : Int) ≤ x.toInt ∧ x.toInt ≤ 4) (y : Int32) : CtI l G yX9_wallOf cX9_wallOf 4 .int 5 121 (n) ad E [.ref (ad 68), .int x, .int y] (fun r E' => ((-2147483648 : Int) ≤ r.toInt ∧ r.toInt ≤ 2147483647) ∧ JY l Z kn G ad n ic md bd PR E0 E') := by
  refine CtI.of (by decide) (Nat.le_of_ble_eq_true rfl) (fun X A C => ?_)
  refine v_sub (lv' := [(0, .ref (ad 68)), (1, .int x), (2, .int y)]) [0, 1, 2] rfl ?_
  have hn := hJ.hn
  have hz16 := hJ.1.2.2.2.2
  refine v_iload_n C 2 dX9_wallOf_0 rfl rfl ?_
  refine v_aload_n C 0 dX9_wallOf_1 rfl rfl ?_
  refine v_iload_n C 1 dX9_wallOf_2 rfl rfl ?_
  refine v_iload_n C 2 dX9_wallOf_3 rfl rfl ?_
  obtain ⟨im5, hM5, hb5⟩ := hJ.1.1
  have hq5 := hM5.b
  refine v_cVi C dX9_wallOf_4 lX9_182 mX9_offsetAt 68 (by omega) hM5.2.2.1 (by decide) rfl (ty_X9_offsetAt l G ad hJ x (show (0 : Int) ≤ Int32.toInt x ∧ Int32.toInt x ≤ 4 by omega) y) ⟨by decide, by decide⟩ rfl (Nat.le_of_ble_eq_true rfl) ⟨Nat.zero_le _, Nat.zero_le _⟩ (fun r1 E2 hp3 => ?_)
  obtain ⟨hp3, hJ4⟩ := hp3
  refine v_iadd C dX9_wallOf_7 ?_
  refine v_top (fun x6 _ => ?_)
  refine v_istore_n (lv' := [(0, .ref (ad 68)), (1, .int x), (2, .int y), (3, .int x6)]) C [1, 2, 3, 0] dX9_wallOf_8 rfl (by decide) rfl ?_
  refine v_aload_n C 0 dX9_wallOf_9 rfl rfl ?_
  refine v_iload_n C 3 dX9_wallOf_10 rfl rfl ?_
  obtain ⟨im11, hM11, hb11⟩ := hJ4.1.1
  have hq11 := hM11.b
  refine v_cVi C dX9_wallOf_11 lX9_185 mX9_isWall 68 (by omega) hM11.2.2.1 (by decide) rfl (ty_X9_isWall l G ad hJ4 x6) ⟨by decide, by decide⟩ rfl (Nat.le_of_ble_eq_true rfl) ⟨Nat.zero_le _, Nat.zero_le _⟩ (fun r7 E8 hp9 => ?_)
  obtain ⟨hp9, hJ10⟩ := hp9
  rcases hp9 with rfl | rfl
  · refine b_if_eq C 21 dX9_wallOf_14 (by decide) (show (0 : Int32).toInt = 0 by decide) (fun c12 => ?_) (fun c12 => absurd c12 (by decide))
    refine v_iconst (v := (-1)) C dX9_wallOf_21 (by decide) ?_
    exact v_ret C dX9_wallOf_22 rfl rfl ⟨(ti_any (-1)), hJ10⟩
  · refine b_if_eq C 21 dX9_wallOf_14 (by decide) (show (1 : Int32).toInt = 1 by decide) (fun c13 => absurd c13 (by decide)) (fun c13 => ?_)
    refine v_iload_n C 3 dX9_wallOf_17 rfl rfl ?_
    refine v_goto C 22 dX9_wallOf_18 (by decide) ?_
    exact v_ret C dX9_wallOf_22 rfl rfl ⟨(ti_any x6), hJ10⟩

set_option maxRecDepth 20000 in
theorem ty_X9_isKept (l : Launch) (G : Gl) (ad : Nat → Nat) {Z : (Nat → va_E) → Prop} {kn : Int} {n : Nat} {ic md : Nat → Int32} {bd : Nat → Int × Int} {E0 E : Nat → va_E} {ab : Int × Int} (hJ : JY l Z kn G ad n ic md (upB bd 35 ab) PR E0 E) {fo fx : Nat → Int32} {m : Nat} (hfo : E0 89 = aI G 10 fo) (hfx : E0 90 = aI G 10 fx) (hm : m ≤ 10) (hok : okH fo m) (hox : OXm fo fx m) (hf32 : (m : Int) ≤ (bd 32).1 ∧ (bd 32).2 ≤ (m : Int)) (x : Int32) (hx : (0 : Int) ≤ x.toInt ∧ x.toInt ≤ 2147483647) (y : Int32) (v : Int32) (hlw : ((x.toInt % 10 = 1 ∨ x.toInt % 10 = 2) → x.toInt / 10 ≤ 4)) : CtI l G yX9_isKept cX9_isKept 7 .boolean 8 197 (n) ad E [.ref (ad 68), .int x, .int y, .int v] (fun r E' => (r = 0 ∨ r = 1) ∧ JY l Z kn G ad n ic md (upB bd 35 (0, 8)) PR E0 E') := by
  refine CtI.of (by decide) (Nat.le_of_ble_eq_true rfl) (fun X A C => ?_)
  refine v_sub (lv' := [(0, .ref (ad 68)), (1, .int x), (2, .int y), (3, .int v)]) [0, 1, 2, 3] rfl ?_
  have hn := hJ.hn
  have hz16 := upB_n16 (by decide) hJ.1.2.2.2.2
  refine v_aload_n C 0 dX9_isKept_0 rfl rfl ?_
  refine v_iload_n C 3 dX9_isKept_1 rfl rfl ?_
  obtain ⟨im5, hM5, hb5⟩ := hJ.1.1
  have hq5 := hM5.b
  refine v_cVi C dX9_isKept_2 lX9_253 mX9_runs 68 (by omega) hM5.2.2.1 (by decide) rfl (ty_X9_runs l G ad hJ hfo hfx hm hok hox (show (m : Int) ≤ (bd 32).1 ∧ (bd 32).2 ≤ (m : Int) by omega) v) ⟨by decide, by decide⟩ rfl (Nat.le_of_ble_eq_true rfl) ⟨Nat.zero_le _, Nat.zero_le _⟩ (fun r1 E2 hp3 => ?_)
  obtain ⟨hp3, hJ4⟩ := hp3
  rcases hp3 with rfl | rfl
  · refine b_if_ne C 10 dX9_isKept_5 (by decide) (show (0 : Int32).toInt = 0 by decide) (fun c6 => absurd c6 (by decide)) (fun c6 => ?_)
    refine v_iconst (v := 0) C dX9_isKept_8 (by decide) ?_
    exact v_ret C dX9_isKept_9 rfl rfl ⟨Or.inl rfl, hJ4.toB (by decide) (by omega) (by omega)⟩
  · refine b_if_ne C 10 dX9_isKept_5 (by decide) (show (1 : Int32).toInt = 1 by decide) (fun c7 => ?_) (fun c7 => absurd c7 (by decide))
    refine v_aload_n C 0 dX9_isKept_10 rfl rfl ?_
    obtain ⟨im8, hM8, hb8⟩ := hJ4.1.1
    have hq8 := hM8.b
    refine v_getr C 68 dX9_isKept_11 fX9_100 (by omega) hM8.2.2.1 rfl rfl ?_
    refine v_iconst (v := 0) C dX9_isKept_14 (by decide) ?_
    obtain ⟨f10, hE10, hb10⟩ := hJ4.1.2.1.getA (b := 93) (by omega) rfl
    refine v_ald (v := f10 0) C 93 dX9_isKept_15 (by omega) hE10 (ti_in (show (0 : Int32).toInt = 0 by decide) (by omega) (by omega)) (congrArg f10 (by decide)) ?_
    refine v_top (fun x11 _ => ?_)
    refine v_istore (lv' := [(0, .ref (ad 68)), (1, .int x), (2, .int y), (3, .int v), (4, .int x11)]) C [1, 2, 3, 4, 0] dX9_isKept_16 (by decide) rfl ?_
    refine v_aload_n C 0 dX9_isKept_18 rfl rfl ?_
    refine v_getr C 68 dX9_isKept_19 fX9_97 (by omega) hM8.2.2.1 rfl rfl ?_
    refine v_iconst (v := 0) C dX9_isKept_22 (by decide) ?_
    obtain ⟨f13, hE13, hb13⟩ := hJ4.1.2.1.getA (b := 92) (by omega) rfl
    refine v_ald (v := f13 0) C 92 dX9_isKept_23 (by omega) hE13 (ti_in (show (0 : Int32).toInt = 0 by decide) (by omega) (by omega)) (congrArg f13 (by decide)) ?_
    refine v_top (fun x14 _ => ?_)
    have JN15 : ∀ (E17 : Nat → va_E) (y16 : Int32), JY l Z kn G ad n ic md (upB bd 35 (0, 8)) PR E0 E17 → ((0 : Int) ≤ y16.toInt ∧ y16.toInt ≤ 1) → V X G A 7 (QI X G A (n) ad (fun r E' => (r = 0 ∨ r = 1) ∧ JY l Z kn G ad n ic md (upB bd 35 (0, 8)) PR E0 E')) n ad 0 0 E17 32 [(0, .ref (ad 68)), (1, .int x), (2, .int y), (3, .int v), (4, .int x11)] [.int y16] := by
      intro E17 y16 hJ18 hy16
      refine v_istore (lv' := [(0, .ref (ad 68)), (1, .int x), (2, .int y), (3, .int v), (4, .int x11), (5, .int y16)]) C [1, 2, 3, 4, 5, 0] dX9_isKept_32 (by decide) rfl ?_
      refine v_iload_n C 1 dX9_isKept_34 rfl rfl ?_
      refine v_bipush (v := 10) C dX9_isKept_35 (by decide) ?_
      refine v_idiv C dX9_isKept_37 (by decide) ?_
      have := ti_any x
      refine v_top (fun x19 ex19 => ?_)
      have hx19 : x19.toInt = (x.toInt / 10) := by rw [ex19]; exact ti_div (rfl : Int32.toInt x = _) (show (10 : Int32).toInt = 10 by decide) (by omega) (by omega)
      refine v_istore (lv' := [(0, .ref (ad 68)), (1, .int x), (2, .int y), (3, .int v), (4, .int x11), (5, .int y16), (6, .int x19)]) C [1, 2, 3, 4, 5, 6, 0] dX9_isKept_38 (by decide) rfl ?_
      refine v_iload_n C 1 dX9_isKept_40 rfl rfl ?_
      refine v_bipush (v := 10) C dX9_isKept_41 (by decide) ?_
      refine v_irem C dX9_isKept_43 (by decide) ?_
      have := ti_any x
      refine v_top (fun x20 ex20 => ?_)
      have hx20 : x20.toInt = (x.toInt % 10) := by rw [ex20]; exact ti_rem (rfl : Int32.toInt x = _) (show (10 : Int32).toInt = 10 by decide) (by omega) (by omega)
      have q21v : Int32.toInt x20 = (x.toInt % 10) := hx20
      rcases (show (x.toInt % 10) = 0 ∨ (x.toInt % 10) = 1 ∨ (x.toInt % 10) = 2 ∨ (x.toInt % 10) = 3 ∨ ((x.toInt % 10) < 0 ∨ 3 < (x.toInt % 10)) by omega) with q21 | q21 | q21 | q21 | q21
      · refine v_tableIn (off := 32) C 76 dX9_isKept_44 (by omega) (by omega) (by rw [q21v, q21]; rfl) (by decide) ?_
        refine v_iload C 5 dX9_isKept_76 rfl ?_
        refine b_if_eq C 97 dX9_isKept_78 (by decide) (rfl : Int32.toInt y16 = _) (fun c22 => ?_) (fun c22 => ?_)
        · refine v_iconst (v := 0) C dX9_isKept_97 (by decide) ?_
          exact v_ret C dX9_isKept_98 rfl rfl ⟨Or.inl rfl, hJ18.toB (by decide) (by omega) (by omega)⟩
        · refine v_iload C 4 dX9_isKept_81 rfl ?_
          refine v_i2l C dX9_isKept_83 rfl ?_
          refine v_topl (fun x23 _ => ?_)
          refine v_iload_n C 3 dX9_isKept_84 rfl rfl ?_
          refine v_i2l C dX9_isKept_85 rfl ?_
          refine v_topl (fun x24 _ => ?_)
          refine v_iload_n C 2 dX9_isKept_86 rfl rfl ?_
          refine v_i2l C dX9_isKept_87 rfl ?_
          refine v_topl (fun x25 _ => ?_)
          refine v_ladd C dX9_isKept_88 ?_
          refine v_topl (fun x26 _ => ?_)
          refine v_lcmp C dX9_isKept_89 ?_
          refine v_top (fun x27 _ => ?_)
          refine b_if_lt C 97 dX9_isKept_90 (by decide) (rfl : Int32.toInt x27 = _) (fun c28 => ?_) (fun c28 => ?_)
          · refine v_iconst (v := 0) C dX9_isKept_97 (by decide) ?_
            exact v_ret C dX9_isKept_98 rfl rfl ⟨Or.inl rfl, hJ18.toB (by decide) (by omega) (by omega)⟩
          · refine v_iconst (v := 1) C dX9_isKept_93 (by decide) ?_
            refine v_goto C 98 dX9_isKept_94 (by decide) ?_
            exact v_ret C dX9_isKept_98 rfl rfl ⟨Or.inr rfl, hJ18.toB (by decide) (by omega) (by omega)⟩
      · refine v_tableIn (off := 55) C 99 dX9_isKept_44 (by omega) (by omega) (by rw [q21v, q21]; rfl) (by decide) ?_
        refine v_iload C 5 dX9_isKept_99 rfl ?_
        refine b_if_eq C 135 dX9_isKept_101 (by decide) (rfl : Int32.toInt y16 = _) (fun c29 => ?_) (fun c29 => ?_)
        · refine v_iconst (v := 0) C dX9_isKept_135 (by decide) ?_
          exact v_ret C dX9_isKept_136 rfl rfl ⟨Or.inl rfl, hJ18.toB (by decide) (by omega) (by omega)⟩
        · refine v_aload_n C 0 dX9_isKept_104 rfl rfl ?_
          refine v_iload C 6 dX9_isKept_105 rfl ?_
          refine v_iload C 4 dX9_isKept_107 rfl ?_
          obtain ⟨im34, hM34, hb34⟩ := hJ18.1.1
          have hq34 := hM34.b
          refine v_cVi C dX9_isKept_109 lX9_256 mX9_wallOf 68 (by omega) hM34.2.2.1 (by decide) rfl (ty_X9_wallOf l G ad hJ18 x19 (show (0 : Int) ≤ Int32.toInt x19 ∧ Int32.toInt x19 ≤ 4 by have := hx19; omega) x11) ⟨by decide, by decide⟩ rfl (Nat.le_of_ble_eq_true rfl) ⟨Nat.zero_le _, Nat.zero_le _⟩ (fun r30 E31 hp32 => ?_)
          obtain ⟨hp32, hJ33⟩ := hp32
          refine b_if_lt C 135 dX9_isKept_112 (by decide) (rfl : Int32.toInt r30 = _) (fun c35 => ?_) (fun c35 => ?_)
          · refine v_iconst (v := 0) C dX9_isKept_135 (by decide) ?_
            exact v_ret C dX9_isKept_136 rfl rfl ⟨Or.inl rfl, hJ33.toB (by decide) (by omega) (by omega)⟩
          · refine v_aload_n C 0 dX9_isKept_115 rfl rfl ?_
            refine v_iload C 6 dX9_isKept_116 rfl ?_
            refine v_iload C 4 dX9_isKept_118 rfl ?_
            obtain ⟨im40, hM40, hb40⟩ := hJ33.1.1
            have hq40 := hM40.b
            refine v_cVi C dX9_isKept_120 lX9_256 mX9_wallOf 68 (by omega) hM40.2.2.1 (by decide) rfl (ty_X9_wallOf l G ad hJ33 x19 (show (0 : Int) ≤ Int32.toInt x19 ∧ Int32.toInt x19 ≤ 4 by have := hx19; omega) x11) ⟨by decide, by decide⟩ rfl (Nat.le_of_ble_eq_true rfl) ⟨Nat.zero_le _, Nat.zero_le _⟩ (fun r36 E37 hp38 => ?_)
            obtain ⟨hp38, hJ39⟩ := hp38
            refine v_sipush (v := 1440) C dX9_isKept_123 (by decide) ?_
            refine v_irem C dX9_isKept_126 (by decide) ?_
            refine v_top (fun x41 _ => ?_)
            refine v_iload_n C 2 dX9_isKept_127 rfl rfl ?_
            refine b_icmp_ne C 135 dX9_isKept_128 (by decide) (rfl : Int32.toInt x41 = _) (rfl : Int32.toInt y = _) (fun c42 => ?_) (fun c42 => ?_)
            · refine v_iconst (v := 0) C dX9_isKept_135 (by decide) ?_
              exact v_ret C dX9_isKept_136 rfl rfl ⟨Or.inl rfl, hJ39.toB (by decide) (by omega) (by omega)⟩
            · refine v_iconst (v := 1) C dX9_isKept_131 (by decide) ?_
              refine v_goto C 136 dX9_isKept_132 (by decide) ?_
              exact v_ret C dX9_isKept_136 rfl rfl ⟨Or.inr rfl, hJ39.toB (by decide) (by omega) (by omega)⟩
      · refine v_tableIn (off := 93) C 137 dX9_isKept_44 (by omega) (by omega) (by rw [q21v, q21]; rfl) (by decide) ?_
        refine v_iload C 5 dX9_isKept_137 rfl ?_
        refine b_if_eq C 201 dX9_isKept_139 (by decide) (rfl : Int32.toInt y16 = _) (fun c43 => ?_) (fun c43 => ?_)
        · refine v_iconst (v := 0) C dX9_isKept_201 (by decide) ?_
          exact v_ret C dX9_isKept_202 rfl rfl ⟨Or.inl rfl, hJ18.toB (by decide) (by omega) (by omega)⟩
        · refine v_aload_n C 0 dX9_isKept_142 rfl rfl ?_
          refine v_iload C 6 dX9_isKept_143 rfl ?_
          refine v_iload C 4 dX9_isKept_145 rfl ?_
          obtain ⟨im48, hM48, hb48⟩ := hJ18.1.1
          have hq48 := hM48.b
          refine v_cVi C dX9_isKept_147 lX9_256 mX9_wallOf 68 (by omega) hM48.2.2.1 (by decide) rfl (ty_X9_wallOf l G ad hJ18 x19 (show (0 : Int) ≤ Int32.toInt x19 ∧ Int32.toInt x19 ≤ 4 by have := hx19; omega) x11) ⟨by decide, by decide⟩ rfl (Nat.le_of_ble_eq_true rfl) ⟨Nat.zero_le _, Nat.zero_le _⟩ (fun r44 E45 hp46 => ?_)
          obtain ⟨hp46, hJ47⟩ := hp46
          refine b_if_lt C 201 dX9_isKept_150 (by decide) (rfl : Int32.toInt r44 = _) (fun c49 => ?_) (fun c49 => ?_)
          · refine v_iconst (v := 0) C dX9_isKept_201 (by decide) ?_
            exact v_ret C dX9_isKept_202 rfl rfl ⟨Or.inl rfl, hJ47.toB (by decide) (by omega) (by omega)⟩
          · refine v_aload_n C 0 dX9_isKept_153 rfl rfl ?_
            refine v_iload C 6 dX9_isKept_154 rfl ?_
            refine v_iload_n C 3 dX9_isKept_156 rfl rfl ?_
            obtain ⟨im54, hM54, hb54⟩ := hJ47.1.1
            have hq54 := hM54.b
            refine v_cVi C dX9_isKept_157 lX9_256 mX9_wallOf 68 (by omega) hM54.2.2.1 (by decide) rfl (ty_X9_wallOf l G ad hJ47 x19 (show (0 : Int) ≤ Int32.toInt x19 ∧ Int32.toInt x19 ≤ 4 by have := hx19; omega) v) ⟨by decide, by decide⟩ rfl (Nat.le_of_ble_eq_true rfl) ⟨Nat.zero_le _, Nat.zero_le _⟩ (fun r50 E51 hp52 => ?_)
            obtain ⟨hp52, hJ53⟩ := hp52
            refine b_if_lt C 201 dX9_isKept_160 (by decide) (rfl : Int32.toInt r50 = _) (fun c55 => ?_) (fun c55 => ?_)
            · refine v_iconst (v := 0) C dX9_isKept_201 (by decide) ?_
              exact v_ret C dX9_isKept_202 rfl rfl ⟨Or.inl rfl, hJ53.toB (by decide) (by omega) (by omega)⟩
            · refine v_aload_n C 0 dX9_isKept_163 rfl rfl ?_
              refine v_aload_n C 0 dX9_isKept_164 rfl rfl ?_
              refine v_iload C 6 dX9_isKept_165 rfl ?_
              refine v_iload C 4 dX9_isKept_167 rfl ?_
              obtain ⟨im60, hM60, hb60⟩ := hJ53.1.1
              have hq60 := hM60.b
              refine v_cVi C dX9_isKept_169 lX9_256 mX9_wallOf 68 (by omega) hM60.2.2.1 (by decide) rfl (ty_X9_wallOf l G ad hJ53 x19 (show (0 : Int) ≤ Int32.toInt x19 ∧ Int32.toInt x19 ≤ 4 by have := hx19; omega) x11) ⟨by decide, by decide⟩ rfl (Nat.le_of_ble_eq_true rfl) ⟨Nat.zero_le _, Nat.zero_le _⟩ (fun r56 E57 hp58 => ?_)
              obtain ⟨hp58, hJ59⟩ := hp58
              refine v_sipush (v := 1440) C dX9_isKept_172 (by decide) ?_
              refine v_idiv C dX9_isKept_175 (by decide) ?_
              refine v_top (fun x61 ex61 => ?_)
              have hx61 : (-1491308 : Int) ≤ x61.toInt ∧ x61.toInt ≤ 1491308 := by rw [ex61]; exact ti_tdb (show (1440 : Int32).toInt = 1440 by decide) (by decide)
              obtain ⟨im64, hM64, hb64⟩ := hJ59.1.1
              have hq64 := hM64.b
              refine v_cVp C dX9_isKept_176 lX9_149 mX9_weekday 68 (by omega) hM64.2.2.1 (by decide) rfl (ty_X9_weekday l G ad hJ59 x61) ⟨by decide, by decide⟩ rfl (Nat.le_of_ble_eq_true rfl) ⟨Nat.zero_le _, Nat.zero_le _⟩ (fun r62 hp63 => ?_)
              refine v_aload_n C 0 dX9_isKept_179 rfl rfl ?_
              refine v_aload_n C 0 dX9_isKept_180 rfl rfl ?_
              refine v_iload C 6 dX9_isKept_181 rfl ?_
              refine v_iload_n C 3 dX9_isKept_183 rfl rfl ?_
              refine v_cVi C dX9_isKept_184 lX9_256 mX9_wallOf 68 (by omega) hM64.2.2.1 (by decide) rfl (ty_X9_wallOf l G ad hJ59 x19 (show (0 : Int) ≤ Int32.toInt x19 ∧ Int32.toInt x19 ≤ 4 by have := hx19; omega) v) ⟨by decide, by decide⟩ rfl (Nat.le_of_ble_eq_true rfl) ⟨Nat.zero_le _, Nat.zero_le _⟩ (fun r65 E66 hp67 => ?_)
              obtain ⟨hp67, hJ68⟩ := hp67
              refine v_sipush (v := 1440) C dX9_isKept_187 (by decide) ?_
              refine v_idiv C dX9_isKept_190 (by decide) ?_
              refine v_top (fun x69 ex69 => ?_)
              have hx69 : (-1491308 : Int) ≤ x69.toInt ∧ x69.toInt ≤ 1491308 := by rw [ex69]; exact ti_tdb (show (1440 : Int32).toInt = 1440 by decide) (by decide)
              obtain ⟨im72, hM72, hb72⟩ := hJ68.1.1
              have hq72 := hM72.b
              refine v_cVp C dX9_isKept_191 lX9_149 mX9_weekday 68 (by omega) hM72.2.2.1 (by decide) rfl (ty_X9_weekday l G ad hJ68 x69) ⟨by decide, by decide⟩ rfl (Nat.le_of_ble_eq_true rfl) ⟨Nat.zero_le _, Nat.zero_le _⟩ (fun r70 hp71 => ?_)
              refine b_icmp_ne C 201 dX9_isKept_194 (by decide) (rfl : Int32.toInt r62 = _) (rfl : Int32.toInt r70 = _) (fun c73 => ?_) (fun c73 => ?_)
              · refine v_iconst (v := 0) C dX9_isKept_201 (by decide) ?_
                exact v_ret C dX9_isKept_202 rfl rfl ⟨Or.inl rfl, hJ68.toB (by decide) (by omega) (by omega)⟩
              · refine v_iconst (v := 1) C dX9_isKept_197 (by decide) ?_
                refine v_goto C 202 dX9_isKept_198 (by decide) ?_
                exact v_ret C dX9_isKept_202 rfl rfl ⟨Or.inr rfl, hJ68.toB (by decide) (by omega) (by omega)⟩
      · refine v_tableIn (off := 159) C 203 dX9_isKept_44 (by omega) (by omega) (by rw [q21v, q21]; rfl) (by decide) ?_
        refine v_aload_n C 0 dX9_isKept_203 rfl rfl ?_
        obtain ⟨im74, hM74, hb74⟩ := hJ18.1.1
        have hq74 := hM74.b
        refine v_getr C 68 dX9_isKept_204 fX9_97 (by omega) hM74.2.2.1 rfl rfl ?_
        refine v_iconst (v := 0) C dX9_isKept_207 (by decide) ?_
        obtain ⟨f76, hE76, hb76⟩ := hJ18.1.2.1.getA (b := 92) (by omega) rfl
        refine v_ald (v := f76 0) C 92 dX9_isKept_208 (by omega) hE76 (ti_in (show (0 : Int32).toInt = 0 by decide) (by omega) (by omega)) (congrArg f76 (by decide)) ?_
        refine v_top (fun x77 _ => ?_)
        refine v_iconst (v := 3) C dX9_isKept_209 (by decide) ?_
        refine b_icmp_ne C 223 dX9_isKept_210 (by decide) (rfl : Int32.toInt x77 = _) (show (3 : Int32).toInt = 3 by decide) (fun c78 => ?_) (fun c78 => ?_)
        · refine v_iconst (v := 0) C dX9_isKept_223 (by decide) ?_
          exact v_ret C dX9_isKept_224 rfl rfl ⟨Or.inl rfl, hJ18.toB (by decide) (by omega) (by omega)⟩
        · refine v_iload C 4 dX9_isKept_213 rfl ?_
          refine v_iload_n C 2 dX9_isKept_215 rfl rfl ?_
          refine b_icmp_lt C 223 dX9_isKept_216 (by decide) (rfl : Int32.toInt x11 = _) (rfl : Int32.toInt y = _) (fun c79 => ?_) (fun c79 => ?_)
          · refine v_iconst (v := 0) C dX9_isKept_223 (by decide) ?_
            exact v_ret C dX9_isKept_224 rfl rfl ⟨Or.inl rfl, hJ18.toB (by decide) (by omega) (by omega)⟩
          · refine v_iconst (v := 1) C dX9_isKept_219 (by decide) ?_
            refine v_goto C 224 dX9_isKept_220 (by decide) ?_
            exact v_ret C dX9_isKept_224 rfl rfl ⟨Or.inr rfl, hJ18.toB (by decide) (by omega) (by omega)⟩
      · refine v_tableOut C 225 dX9_isKept_44 (by omega) (by decide) ?_
        refine v_iconst (v := 1) C dX9_isKept_225 (by decide) ?_
        exact v_ret C dX9_isKept_226 rfl rfl ⟨Or.inr rfl, hJ18.toB (by decide) (by omega) (by omega)⟩
    refine b_if_ne C 31 dX9_isKept_24 (by decide) (rfl : Int32.toInt x14 = _) (fun c80 => ?_) (fun c80 => ?_)
    · refine v_iconst (v := 0) C dX9_isKept_31 (by decide) ?_
      exact JN15 _ 0 hJ4 (by have := (show (0 : Int32).toInt = 0 by decide); omega)
    · refine v_iconst (v := 1) C dX9_isKept_27 (by decide) ?_
      refine v_goto C 32 dX9_isKept_28 (by decide) ?_
      exact JN15 _ 1 hJ4 (by have := (show (1 : Int32).toInt = 1 by decide); omega)

set_option maxRecDepth 20000 in
theorem ty_X9_firstBroken (l : Launch) (G : Gl) (ad : Nat → Nat) {Z : (Nat → va_E) → Prop} {kn : Int} {n : Nat} {ic md : Nat → Int32} {bd : Nat → Int × Int} {E0 E : Nat → va_E} {ab : Int × Int} (hJ : JY l Z kn G ad n ic md (upB bd 35 ab) PR E0 E) {fo fx : Nat → Int32} {m : Nat} (hfo : E0 89 = aI G 10 fo) (hfx : E0 90 = aI G 10 fx) (hm : m ≤ 10) (hok : okH fo m) (hox : OXm fo fx m) (hab : 0 ≤ ab.1 ∧ ab.2 ≤ 8) (hf32 : (m : Int) ≤ (bd 32).1 ∧ (bd 32).2 ≤ (m : Int)) (hf41 : (0 : Int) ≤ (bd 41).1 ∧ (bd 41).2 ≤ 40000) (x : Int32) (hx : (0 : Int) ≤ x.toInt ∧ x.toInt ≤ 2147483647) (y : Int32) (hlw : ((x.toInt % 10 = 1 ∨ x.toInt % 10 = 2) → x.toInt / 10 ≤ 4)) : CtI l G yX9_firstBroken cX9_firstBroken 4 .int 9 223 (n) ad E [.ref (ad 68), .int x, .int y] (fun r E' => ((-2147483648 : Int) ≤ r.toInt ∧ r.toInt ≤ 2147483647) ∧ JY l Z kn G ad n ic md (upB bd 35 (0, 8)) PR E0 E') := by
  refine CtI.of (by decide) (Nat.le_of_ble_eq_true rfl) (fun X A C => ?_)
  refine v_sub (lv' := [(0, .ref (ad 68)), (1, .int x), (2, .int y)]) [0, 1, 2] rfl ?_
  have hn := hJ.hn
  have hz16 := upB_n16 (by decide) hJ.1.2.2.2.2
  refine v_iconst (v := 0) C dX9_firstBroken_0 (by decide) ?_
  refine v_istore_n (lv' := [(0, .ref (ad 68)), (1, .int x), (2, .int y), (3, .int 0)]) C [1, 2, 3, 0] dX9_firstBroken_1 rfl (by decide) rfl ?_
  have LP1 : ∀ (t : Nat) (E3 : Nat → va_E) (y2 : Int32), JY l Z kn G ad n ic md (upB bd 35 (0, 8)) PR E0 E3 → ((0 : Int) ≤ y2.toInt ∧ y2.toInt ≤ 40000) → 40001 - y2.toInt < (t : Int) → V X G A 4 (QI X G A (n) ad (fun r E' => ((-2147483648 : Int) ≤ r.toInt ∧ r.toInt ≤ 2147483647) ∧ JY l Z kn G ad n ic md (upB bd 35 (0, 8)) PR E0 E')) n ad 0 0 E3 2 [(0, .ref (ad 68)), (1, .int x), (2, .int y), (3, .int y2)] [] := by
    intro t7
    induction t7 with
    | zero => intro E3 y2 hJ4 hy2 hm6; exfalso; omega
    | succ t7 ih5 =>
      intro E3 y2 hJ4 hy2 hm6
      refine v_iload_n C 3 dX9_firstBroken_2 rfl rfl ?_
      refine v_aload_n C 0 dX9_firstBroken_3 rfl rfl ?_
      obtain ⟨im8, hM8, hb8⟩ := hJ4.1.1
      have hq8 := hM8.b
      refine v_geti (v := im8 41) C 68 dX9_firstBroken_4 fX9_265 (by omega) hM8.2.2.1 rfl rfl ?_
      have him8_41r : (bd 41).1 ≤ (im8 41).toInt ∧ (im8 41).toInt ≤ (bd 41).2 := hb8 41
      have him8_41 : (0 : Int) ≤ (im8 41).toInt ∧ (im8 41).toInt ≤ 40000 := by omega
      refine b_icmp_ge C 38 dX9_firstBroken_7 (by decide) (rfl : Int32.toInt y2 = _) (rfl : Int32.toInt (im8 41) = _) (fun c9 => ?_) (fun c9 => ?_)
      · refine v_bipush (v := (-6)) C dX9_firstBroken_38 (by decide) ?_
        exact v_ret C dX9_firstBroken_40 rfl rfl ⟨(ti_any (-6)), hJ4.toB (by decide) (by omega) (by omega)⟩
      · refine v_aload_n C 0 dX9_firstBroken_10 rfl rfl ?_
        refine v_iload_n C 1 dX9_firstBroken_11 rfl rfl ?_
        refine v_iload_n C 2 dX9_firstBroken_12 rfl rfl ?_
        refine v_aload_n C 0 dX9_firstBroken_13 rfl rfl ?_
        refine v_getr C 68 dX9_firstBroken_14 fX9_113 (by omega) hM8.2.2.1 rfl rfl ?_
        refine v_iload_n C 3 dX9_firstBroken_17 rfl rfl ?_
        obtain ⟨f11, hE11, hb11⟩ := hJ4.1.2.1.getA (b := 97) (by omega) rfl
        refine v_ald (v := f11 (y2.toInt).toNat) C 97 dX9_firstBroken_18 (by omega) hE11 (ti_in (rfl : Int32.toInt y2 = _) (by omega) (by omega)) (by rw [ti_cl (rfl : Int32.toInt y2 = _)]) ?_
        refine v_top (fun x12 _ => ?_)
        refine v_cVi C dX9_firstBroken_19 lX9_262 mX9_isKept 68 (by omega) hM8.2.2.1 (by decide) rfl (ty_X9_isKept l G ad hJ4 hfo hfx hm hok hox (show (m : Int) ≤ (bd 32).1 ∧ (bd 32).2 ≤ (m : Int) by omega) x (show (0 : Int) ≤ Int32.toInt x ∧ Int32.toInt x ≤ 2147483647 by have := ti_any x; omega) y x12 (by omega)) ⟨by decide, by decide⟩ rfl (Nat.le_of_ble_eq_true rfl) ⟨Nat.zero_le _, Nat.zero_le _⟩ (fun r13 E14 hp15 => ?_)
        obtain ⟨hp15, hJ16⟩ := hp15
        rcases hp15 with rfl | rfl
        · refine b_if_ne C 32 dX9_firstBroken_22 (by decide) (show (0 : Int32).toInt = 0 by decide) (fun c17 => absurd c17 (by decide)) (fun c17 => ?_)
          refine v_aload_n C 0 dX9_firstBroken_25 rfl rfl ?_
          obtain ⟨im18, hM18, hb18⟩ := hJ16.1.1
          have hq18 := hM18.b
          refine v_getr C 68 dX9_firstBroken_26 fX9_113 (by omega) hM18.2.2.1 rfl rfl ?_
          refine v_iload_n C 3 dX9_firstBroken_29 rfl rfl ?_
          obtain ⟨f20, hE20, hb20⟩ := hJ16.1.2.1.getA (b := 97) (by omega) rfl
          refine v_ald (v := f20 (y2.toInt).toNat) C 97 dX9_firstBroken_30 (by omega) hE20 (ti_in (rfl : Int32.toInt y2 = _) (by omega) (by omega)) (by rw [ti_cl (rfl : Int32.toInt y2 = _)]) ?_
          refine v_top (fun x21 _ => ?_)
          exact v_ret C dX9_firstBroken_31 rfl rfl ⟨(ti_any x21), hJ16.toB (by decide) (by omega) (by omega)⟩
        · refine b_if_ne C 32 dX9_firstBroken_22 (by decide) (show (1 : Int32).toInt = 1 by decide) (fun c22 => ?_) (fun c22 => absurd c22 (by decide))
          obtain ⟨x23, ex23⟩ : ∃ y : Int32, y = y2 + 1 := ⟨_, rfl⟩
          have hx23 : x23.toInt = (y2.toInt + 1) := by rw [ex23]; exact ti_add (rfl : Int32.toInt y2 = _) (show (1 : Int32).toInt = 1 by decide) (by omega) (by omega)
          refine v_iinc (v := x23) (lv' := [(0, .ref (ad 68)), (1, .int x), (2, .int y), (3, .int x23)]) C 3 [1, 2, 3, 0] dX9_firstBroken_32 rfl (ex23.symm) (by decide) rfl ?_
          refine v_goto C 2 dX9_firstBroken_35 (by decide) ?_
          exact ih5 _ x23 (hJ16.toB (by decide) (by have := hx23; omega) (by have := hx23; omega)) (by have := hx23; omega) (by have := hx23; omega)
  exact LP1 100000 _ 0 (hJ.toB (by decide) (by have := (show (0 : Int32).toInt = 0 by decide); omega) (by have := (show (0 : Int32).toInt = 0 by decide); omega)) (by have := (show (0 : Int32).toInt = 0 by decide); omega) (by have := (show (0 : Int32).toInt = 0 by decide); omega)

set_option maxRecDepth 20000 in
theorem ty_X9_mix (l : Launch) (G : Gl) (ad : Nat → Nat) {Z : (Nat → va_E) → Prop} {kn : Int} {n : Nat} {ic md : Nat → Int32} {bd : Nat → Int × Int} {E0 E : Nat → va_E} (hJ : JY l Z kn G ad n ic md bd PT E0 E) {gop gx gy fl : Nat → Int32} (hgo : E0 85 = aI G 60 gop) (hgx : E0 86 = aI G 60 gx) (hgy : E0 87 = aI G 60 gy) (hgl : E0 88 = aI G 6 fl) (hbl : ∀ k, 0 ≤ (fl k).toInt ∧ (fl k).toInt ≤ 10) (hLX : LXg gop gx) (hf32 : ((0 : Int) ≤ (bd 32).1 ∧ (bd 32).2 ≤ 10) ∧ ((bd 32).1 ≤ 0 ∧ 10 ≤ (bd 32).2)) (hf35 : ((0 : Int) ≤ (bd 35).1 ∧ (bd 35).2 ≤ 8) ∧ ((bd 35).1 ≤ 0 ∧ 8 ≤ (bd 35).2)) (p : Int32) : CtI l G yX9_mix cX9_mix 2 .int 4 86 (n) ad E [.ref (ad 68), .int p] (fun r E' => ((-2147483648 : Int) ≤ r.toInt ∧ r.toInt ≤ 2147483647) ∧ JY l Z kn G ad n ic md bd PT E0 E') := by
  refine CtI.of (by decide) (Nat.le_of_ble_eq_true rfl) (fun X A C => ?_)
  refine v_sub (lv' := [(0, .ref (ad 68)), (1, .int p)]) [0, 1] rfl ?_
  have hn := hJ.hn
  have hz16 := hJ.1.2.2.2.2
  refine v_iload_n C 1 dX9_mix_0 rfl rfl ?_
  refine v_cSp C dX9_mix_1 lX9_194 mX9_isProgram (ty_X9_isProgram l G ad hJ.self p) ⟨by decide, by decide⟩ rfl (Nat.le_of_ble_eq_true rfl) ⟨Nat.zero_le _, Nat.zero_le _⟩ (fun r1 hp2 => ?_)
  rcases hp2 with ⟨rfl, hp2⟩ | ⟨rfl, hp2⟩
  · refine b_if_ne C 9 dX9_mix_4 (by decide) (show (1 : Int32).toInt = 1 by decide) (fun c3 => ?_) (fun c3 => absurd c3 (by decide))
    refine v_aload_n C 0 dX9_mix_9 rfl rfl ?_
    refine v_iload_n C 1 dX9_mix_10 rfl rfl ?_
    obtain ⟨im7, hM7, hb7⟩ := hJ.1.1
    have hq7 := hM7.b
    refine v_cVv C dX9_mix_11 lX9_219 mX9_take 68 (by omega) hM7.2.2.1 (by decide) rfl (ty_X9_take l G ad hJ hgo hgx hgy hgl hbl p (show (0 : Int) ≤ Int32.toInt p ∧ Int32.toInt p ≤ 5 by omega)) ⟨by decide, by decide⟩ rfl (Nat.le_of_ble_eq_true rfl) ⟨Nat.zero_le _, Nat.zero_le _⟩ (fun E4 hT6 => ?_)
    obtain ⟨fo6, fx6, fy6, h896, h906, h916, hT6, hJ5⟩ := hT6
    have hbm6 := hbl (p.toInt).toNat
    have hox6 : OXm fo6 fx6 ((fl (p.toInt).toNat).toInt).toNat := fun j hj hq => by have q := hT6 j hj; rw [q.1] at hq; rw [q.2.1]; exact hLX _ (by omega) hq
    refine v_aload_n C 0 dX9_mix_14 rfl rfl ?_
    obtain ⟨im13, hM13, hb13⟩ := hJ5.1.1
    have hq13 := hM13.b
    refine v_cVi C dX9_mix_15 lX9_222 mX9_mixOf 68 (by omega) hM13.2.2.1 (by decide) rfl (ty_X9_mixOf l G ad hJ5.self h896 (show ((fl (p.toInt).toNat).toInt).toNat ≤ 10 by omega) (show ((((fl (p.toInt).toNat).toInt).toNat : Nat) : Int) ≤ (fl (p.toInt).toNat).toInt ∧ (fl (p.toInt).toNat).toInt ≤ ((((fl (p.toInt).toNat).toInt).toNat : Nat) : Int) by omega)) ⟨by decide, by decide⟩ rfl (Nat.le_of_ble_eq_true rfl) ⟨Nat.zero_le _, Nat.zero_le _⟩ (fun r8 E9 hp10 => ?_)
    rcases hp10 with ⟨hp10, hp10k, hJ11⟩ | ⟨hp10, hJ11⟩
    · have hJ12 := hJ5.trans (fun _ => PT_PR) hJ11
      have e14 := (hJ11.1.2.1.1 89 (by unfold PR; omega)).trans h896
      have e15 := (hJ11.1.2.1.1 90 (by unfold PR; omega)).trans h906
      have e16 := (hJ11.1.2.1.1 91 (by unfold PR; omega)).trans h916
      obtain rfl : r8 = (-6 : Int32) := ti_ext (hp10.trans (by decide))
      exact v_ret C dX9_mix_18 rfl rfl ⟨(ti_any (-6)), ((hJ12.outB (k := 35) (by decide) (show (bd 35).1 ≤ 0 by omega) (show 8 ≤ (bd 35).2 by omega)).outB (k := 32) (by decide) (show (bd 32).1 ≤ (fl (p.toInt).toNat).toInt by omega) (show (fl (p.toInt).toNat).toInt ≤ (bd 32).2 by omega))⟩
    · have hJ12 := hJ5.trans (fun _ => PT_PR) hJ11
      have e17 := (hJ11.1.2.1.1 89 (by unfold PR; omega)).trans h896
      have e18 := (hJ11.1.2.1.1 90 (by unfold PR; omega)).trans h906
      have e19 := (hJ11.1.2.1.1 91 (by unfold PR; omega)).trans h916
      exact v_ret C dX9_mix_18 rfl rfl ⟨(ti_any r8), ((hJ12.outB (k := 35) (by decide) (show (bd 35).1 ≤ 0 by omega) (show 8 ≤ (bd 35).2 by omega)).outB (k := 32) (by decide) (show (bd 32).1 ≤ (fl (p.toInt).toNat).toInt by omega) (show (fl (p.toInt).toNat).toInt ≤ (bd 32).2 by omega))⟩
  · refine b_if_ne C 9 dX9_mix_4 (by decide) (show (0 : Int32).toInt = 0 by decide) (fun c20 => absurd c20 (by decide)) (fun c20 => ?_)
    refine v_iconst (v := (-1)) C dX9_mix_7 (by decide) ?_
    exact v_ret C dX9_mix_8 rfl rfl ⟨(ti_any (-1)), hJ⟩

set_option maxRecDepth 20000 in
theorem ty_X9_kind (l : Launch) (G : Gl) (ad : Nat → Nat) {Z : (Nat → va_E) → Prop} {kn : Int} {n : Nat} {ic md : Nat → Int32} {bd : Nat → Int × Int} {E0 E : Nat → va_E} (hJ : JY l Z kn G ad n ic md bd PT E0 E) {gop gx gy fl : Nat → Int32} (hgo : E0 85 = aI G 60 gop) (hgx : E0 86 = aI G 60 gx) (hgy : E0 87 = aI G 60 gy) (hgl : E0 88 = aI G 6 fl) (hbl : ∀ k, 0 ≤ (fl k).toInt ∧ (fl k).toInt ≤ 10) (hLX : LXg gop gx) (hf32 : ((0 : Int) ≤ (bd 32).1 ∧ (bd 32).2 ≤ 10) ∧ ((bd 32).1 ≤ 0 ∧ 10 ≤ (bd 32).2)) (hf35 : ((0 : Int) ≤ (bd 35).1 ∧ (bd 35).2 ≤ 8) ∧ ((bd 35).1 ≤ 0 ∧ 8 ≤ (bd 35).2)) (p : Int32) : CtI l G yX9_kind cX9_kind 2 .int 4 86 (n) ad E [.ref (ad 68), .int p] (fun r E' => ((-2147483648 : Int) ≤ r.toInt ∧ r.toInt ≤ 2147483647) ∧ JY l Z kn G ad n ic md bd PT E0 E') := by
  refine CtI.of (by decide) (Nat.le_of_ble_eq_true rfl) (fun X A C => ?_)
  refine v_sub (lv' := [(0, .ref (ad 68)), (1, .int p)]) [0, 1] rfl ?_
  have hn := hJ.hn
  have hz16 := hJ.1.2.2.2.2
  refine v_iload_n C 1 dX9_kind_0 rfl rfl ?_
  refine v_cSp C dX9_kind_1 lX9_194 mX9_isProgram (ty_X9_isProgram l G ad hJ.self p) ⟨by decide, by decide⟩ rfl (Nat.le_of_ble_eq_true rfl) ⟨Nat.zero_le _, Nat.zero_le _⟩ (fun r1 hp2 => ?_)
  rcases hp2 with ⟨rfl, hp2⟩ | ⟨rfl, hp2⟩
  · refine b_if_ne C 9 dX9_kind_4 (by decide) (show (1 : Int32).toInt = 1 by decide) (fun c3 => ?_) (fun c3 => absurd c3 (by decide))
    refine v_aload_n C 0 dX9_kind_9 rfl rfl ?_
    refine v_iload_n C 1 dX9_kind_10 rfl rfl ?_
    obtain ⟨im7, hM7, hb7⟩ := hJ.1.1
    have hq7 := hM7.b
    refine v_cVv C dX9_kind_11 lX9_219 mX9_take 68 (by omega) hM7.2.2.1 (by decide) rfl (ty_X9_take l G ad hJ hgo hgx hgy hgl hbl p (show (0 : Int) ≤ Int32.toInt p ∧ Int32.toInt p ≤ 5 by omega)) ⟨by decide, by decide⟩ rfl (Nat.le_of_ble_eq_true rfl) ⟨Nat.zero_le _, Nat.zero_le _⟩ (fun E4 hT6 => ?_)
    obtain ⟨fo6, fx6, fy6, h896, h906, h916, hT6, hJ5⟩ := hT6
    have hbm6 := hbl (p.toInt).toNat
    have hox6 : OXm fo6 fx6 ((fl (p.toInt).toNat).toInt).toNat := fun j hj hq => by have q := hT6 j hj; rw [q.1] at hq; rw [q.2.1]; exact hLX _ (by omega) hq
    refine v_aload_n C 0 dX9_kind_14 rfl rfl ?_
    obtain ⟨im13, hM13, hb13⟩ := hJ5.1.1
    have hq13 := hM13.b
    refine v_cVi C dX9_kind_15 lX9_222 mX9_mixOf 68 (by omega) hM13.2.2.1 (by decide) rfl (ty_X9_mixOf l G ad hJ5.self h896 (show ((fl (p.toInt).toNat).toInt).toNat ≤ 10 by omega) (show ((((fl (p.toInt).toNat).toInt).toNat : Nat) : Int) ≤ (fl (p.toInt).toNat).toInt ∧ (fl (p.toInt).toNat).toInt ≤ ((((fl (p.toInt).toNat).toInt).toNat : Nat) : Int) by omega)) ⟨by decide, by decide⟩ rfl (Nat.le_of_ble_eq_true rfl) ⟨Nat.zero_le _, Nat.zero_le _⟩ (fun r8 E9 hp10 => ?_)
    rcases hp10 with ⟨hp10, hp10k, hJ11⟩ | ⟨hp10, hJ11⟩
    · have hJ12 := hJ5.trans (fun _ => PT_PR) hJ11
      have e14 := (hJ11.1.2.1.1 89 (by unfold PR; omega)).trans h896
      have e15 := (hJ11.1.2.1.1 90 (by unfold PR; omega)).trans h906
      have e16 := (hJ11.1.2.1.1 91 (by unfold PR; omega)).trans h916
      obtain rfl : r8 = (-6 : Int32) := ti_ext (hp10.trans (by decide))
      refine v_bipush (v := (-6)) C dX9_kind_18 (by decide) ?_
      refine b_icmp_ne C 32 dX9_kind_20 (by decide) (show ((-6) : Int32).toInt = (-6) by decide) (show ((-6) : Int32).toInt = (-6) by decide) (fun c17 => absurd c17 (by decide)) (fun c17 => ?_)
      refine v_aload_n C 0 dX9_kind_23 rfl rfl ?_
      obtain ⟨im18, hM18, hb18⟩ := hJ12.1.1
      have hq18 := hM18.b
      refine v_getr C 68 dX9_kind_24 fX9_97 (by omega) hM18.2.2.1 rfl rfl ?_
      refine v_iconst (v := 0) C dX9_kind_27 (by decide) ?_
      obtain ⟨f20, hE20, hb20⟩ := hJ12.1.2.1.getA (b := 92) (by omega) rfl
      refine v_ald (v := f20 0) C 92 dX9_kind_28 (by omega) hE20 (ti_in (show (0 : Int32).toInt = 0 by decide) (by omega) (by omega)) (congrArg f20 (by decide)) ?_
      refine v_top (fun x21 _ => ?_)
      refine v_goto C 34 dX9_kind_29 (by decide) ?_
      exact v_ret C dX9_kind_34 rfl rfl ⟨(ti_any x21), ((hJ12.outB (k := 35) (by decide) (show (bd 35).1 ≤ 0 by omega) (show 8 ≤ (bd 35).2 by omega)).outB (k := 32) (by decide) (show (bd 32).1 ≤ (fl (p.toInt).toNat).toInt by omega) (show (fl (p.toInt).toNat).toInt ≤ (bd 32).2 by omega))⟩
    · have hJ12 := hJ5.trans (fun _ => PT_PR) hJ11
      have e22 := (hJ11.1.2.1.1 89 (by unfold PR; omega)).trans h896
      have e23 := (hJ11.1.2.1.1 90 (by unfold PR; omega)).trans h906
      have e24 := (hJ11.1.2.1.1 91 (by unfold PR; omega)).trans h916
      refine v_bipush (v := (-6)) C dX9_kind_18 (by decide) ?_
      refine b_icmp_ne C 32 dX9_kind_20 (by decide) (rfl : Int32.toInt r8 = _) (show ((-6) : Int32).toInt = (-6) by decide) (fun c25 => ?_) (fun c25 => absurd (by have := c25; omega) hp10)
      refine v_bipush (v := (-4)) C dX9_kind_32 (by decide) ?_
      exact v_ret C dX9_kind_34 rfl rfl ⟨(ti_any (-4)), ((hJ12.outB (k := 35) (by decide) (show (bd 35).1 ≤ 0 by omega) (show 8 ≤ (bd 35).2 by omega)).outB (k := 32) (by decide) (show (bd 32).1 ≤ (fl (p.toInt).toNat).toInt by omega) (show (fl (p.toInt).toNat).toInt ≤ (bd 32).2 by omega))⟩
  · refine b_if_ne C 9 dX9_kind_4 (by decide) (show (0 : Int32).toInt = 0 by decide) (fun c26 => absurd c26 (by decide)) (fun c26 => ?_)
    refine v_iconst (v := (-1)) C dX9_kind_7 (by decide) ?_
    exact v_ret C dX9_kind_8 rfl rfl ⟨(ti_any (-1)), hJ⟩

set_option maxRecDepth 20000 in
theorem ty_X9_run (l : Launch) (G : Gl) (ad : Nat → Nat) {Z : (Nat → va_E) → Prop} {kn : Int} {n : Nat} {ic md : Nat → Int32} {bd : Nat → Int × Int} {E0 E : Nat → va_E} (hJ : JY l Z kn G ad n ic md bd PT E0 E) {gop gx gy fl : Nat → Int32} (hgo : E0 85 = aI G 60 gop) (hgx : E0 86 = aI G 60 gx) (hgy : E0 87 = aI G 60 gy) (hgl : E0 88 = aI G 6 fl) (hbl : ∀ k, 0 ≤ (fl k).toInt ∧ (fl k).toInt ≤ 10) (hLX : LXg gop gx) (hf32 : ((0 : Int) ≤ (bd 32).1 ∧ (bd 32).2 ≤ 10) ∧ ((bd 32).1 ≤ 0 ∧ 10 ≤ (bd 32).2)) (hf35 : ((0 : Int) ≤ (bd 35).1 ∧ (bd 35).2 ≤ 8) ∧ ((bd 35).1 ≤ 0 ∧ 8 ≤ (bd 35).2)) (p : Int32) (v : Int32) : CtI l G yX9_run cX9_run 3 .int 8 197 (n) ad E [.ref (ad 68), .int p, .int v] (fun r E' => ((-2147483648 : Int) ≤ r.toInt ∧ r.toInt ≤ 2147483647) ∧ JY l Z kn G ad n ic md bd PT E0 E') := by
  refine CtI.of (by decide) (Nat.le_of_ble_eq_true rfl) (fun X A C => ?_)
  refine v_sub (lv' := [(0, .ref (ad 68)), (1, .int p), (2, .int v)]) [0, 1, 2] rfl ?_
  have hn := hJ.hn
  have hz16 := hJ.1.2.2.2.2
  refine v_iload_n C 1 dX9_run_0 rfl rfl ?_
  refine v_cSp C dX9_run_1 lX9_194 mX9_isProgram (ty_X9_isProgram l G ad hJ.self p) ⟨by decide, by decide⟩ rfl (Nat.le_of_ble_eq_true rfl) ⟨Nat.zero_le _, Nat.zero_le _⟩ (fun r1 hp2 => ?_)
  rcases hp2 with ⟨rfl, hp2⟩ | ⟨rfl, hp2⟩
  · refine b_if_eq C 14 dX9_run_4 (by decide) (show (1 : Int32).toInt = 1 by decide) (fun c3 => absurd c3 (by decide)) (fun c3 => ?_)
    refine v_iload_n C 2 dX9_run_7 rfl rfl ?_
    refine v_cSp C dX9_run_8 lX9_179 mX9_isMoment (ty_X9_isMoment l G ad hJ.self v) ⟨by decide, by decide⟩ rfl (Nat.le_of_ble_eq_true rfl) ⟨Nat.zero_le _, Nat.zero_le _⟩ (fun r4 hp5 => ?_)
    rcases hp5 with ⟨rfl, hp5⟩ | ⟨rfl, hp5⟩
    · refine b_if_ne C 17 dX9_run_11 (by decide) (show (1 : Int32).toInt = 1 by decide) (fun c6 => ?_) (fun c6 => absurd c6 (by decide))
      refine v_aload_n C 0 dX9_run_17 rfl rfl ?_
      refine v_iload_n C 1 dX9_run_18 rfl rfl ?_
      obtain ⟨im10, hM10, hb10⟩ := hJ.1.1
      have hq10 := hM10.b
      refine v_cVv C dX9_run_19 lX9_219 mX9_take 68 (by omega) hM10.2.2.1 (by decide) rfl (ty_X9_take l G ad hJ hgo hgx hgy hgl hbl p (show (0 : Int) ≤ Int32.toInt p ∧ Int32.toInt p ≤ 5 by omega)) ⟨by decide, by decide⟩ rfl (Nat.le_of_ble_eq_true rfl) ⟨Nat.zero_le _, Nat.zero_le _⟩ (fun E7 hT9 => ?_)
      obtain ⟨fo9, fx9, fy9, h899, h909, h919, hT9, hJ8⟩ := hT9
      have hbm9 := hbl (p.toInt).toNat
      have hox9 : OXm fo9 fx9 ((fl (p.toInt).toNat).toInt).toNat := fun j hj hq => by have q := hT9 j hj; rw [q.1] at hq; rw [q.2.1]; exact hLX _ (by omega) hq
      refine v_aload_n C 0 dX9_run_22 rfl rfl ?_
      obtain ⟨im16, hM16, hb16⟩ := hJ8.1.1
      have hq16 := hM16.b
      refine v_cVi C dX9_run_23 lX9_222 mX9_mixOf 68 (by omega) hM16.2.2.1 (by decide) rfl (ty_X9_mixOf l G ad hJ8.self h899 (show ((fl (p.toInt).toNat).toInt).toNat ≤ 10 by omega) (show ((((fl (p.toInt).toNat).toInt).toNat : Nat) : Int) ≤ (fl (p.toInt).toNat).toInt ∧ (fl (p.toInt).toNat).toInt ≤ ((((fl (p.toInt).toNat).toInt).toNat : Nat) : Int) by omega)) ⟨by decide, by decide⟩ rfl (Nat.le_of_ble_eq_true rfl) ⟨Nat.zero_le _, Nat.zero_le _⟩ (fun r11 E12 hp13 => ?_)
      rcases hp13 with ⟨hp13, hp13k, hJ14⟩ | ⟨hp13, hJ14⟩
      · have hJ15 := hJ8.trans (fun _ => PT_PR) hJ14
        have e17 := (hJ14.1.2.1.1 89 (by unfold PR; omega)).trans h899
        have e18 := (hJ14.1.2.1.1 90 (by unfold PR; omega)).trans h909
        have e19 := (hJ14.1.2.1.1 91 (by unfold PR; omega)).trans h919
        obtain rfl : r11 = (-6 : Int32) := ti_ext (hp13.trans (by decide))
        refine v_bipush (v := (-6)) C dX9_run_26 (by decide) ?_
        refine b_icmp_ne C 48 dX9_run_28 (by decide) (show ((-6) : Int32).toInt = (-6) by decide) (show ((-6) : Int32).toInt = (-6) by decide) (fun c20 => absurd c20 (by decide)) (fun c20 => ?_)
        refine v_aload_n C 0 dX9_run_31 rfl rfl ?_
        refine v_iload_n C 2 dX9_run_32 rfl rfl ?_
        obtain ⟨im25, hM25, hb25⟩ := hJ15.1.1
        have hq25 := hM25.b
        refine v_cVi C dX9_run_33 lX9_253 mX9_runs 68 (by omega) hM25.2.2.1 (by decide) rfl (ty_X9_runs l G ad hJ15.self e17 e18 (show ((fl (p.toInt).toNat).toInt).toNat ≤ 10 by omega) hp13k hox9 (show ((((fl (p.toInt).toNat).toInt).toNat : Nat) : Int) ≤ (fl (p.toInt).toNat).toInt ∧ (fl (p.toInt).toNat).toInt ≤ ((((fl (p.toInt).toNat).toInt).toNat : Nat) : Int) by omega) v) ⟨by decide, by decide⟩ rfl (Nat.le_of_ble_eq_true rfl) ⟨Nat.zero_le _, Nat.zero_le _⟩ (fun r21 E22 hp23 => ?_)
        obtain ⟨hp23, hJ24⟩ := hp23
        have hJ26 := hJ15.trans (fun _ => PT_PR) hJ24
        have e27 := (hJ24.1.2.1.1 89 (by unfold PR; omega)).trans e17
        have e28 := (hJ24.1.2.1.1 90 (by unfold PR; omega)).trans e18
        have e29 := (hJ24.1.2.1.1 91 (by unfold PR; omega)).trans e19
        rcases hp23 with rfl | rfl
        · refine b_if_eq C 48 dX9_run_36 (by decide) (show (0 : Int32).toInt = 0 by decide) (fun c30 => ?_) (fun c30 => absurd c30 (by decide))
          refine v_ldc C dX9_run_48 kX9_252 ?_
          exact v_ret C dX9_run_50 rfl rfl ⟨(ti_any (-2000000000)), ((hJ26.outB (k := 35) (by decide) (show (bd 35).1 ≤ 0 by omega) (show 8 ≤ (bd 35).2 by omega)).outB (k := 32) (by decide) (show (bd 32).1 ≤ (fl (p.toInt).toNat).toInt by omega) (show (fl (p.toInt).toNat).toInt ≤ (bd 32).2 by omega))⟩
        · refine b_if_eq C 48 dX9_run_36 (by decide) (show (1 : Int32).toInt = 1 by decide) (fun c31 => absurd c31 (by decide)) (fun c31 => ?_)
          refine v_aload_n C 0 dX9_run_39 rfl rfl ?_
          obtain ⟨im32, hM32, hb32⟩ := hJ26.1.1
          have hq32 := hM32.b
          refine v_getr C 68 dX9_run_40 fX9_100 (by omega) hM32.2.2.1 rfl rfl ?_
          refine v_iconst (v := 0) C dX9_run_43 (by decide) ?_
          obtain ⟨f34, hE34, hb34⟩ := hJ26.1.2.1.getA (b := 93) (by omega) rfl
          refine v_ald (v := f34 0) C 93 dX9_run_44 (by omega) hE34 (ti_in (show (0 : Int32).toInt = 0 by decide) (by omega) (by omega)) (congrArg f34 (by decide)) ?_
          refine v_top (fun x35 _ => ?_)
          refine v_goto C 50 dX9_run_45 (by decide) ?_
          exact v_ret C dX9_run_50 rfl rfl ⟨(ti_any x35), ((hJ26.outB (k := 35) (by decide) (show (bd 35).1 ≤ 0 by omega) (show 8 ≤ (bd 35).2 by omega)).outB (k := 32) (by decide) (show (bd 32).1 ≤ (fl (p.toInt).toNat).toInt by omega) (show (fl (p.toInt).toNat).toInt ≤ (bd 32).2 by omega))⟩
      · have hJ15 := hJ8.trans (fun _ => PT_PR) hJ14
        have e36 := (hJ14.1.2.1.1 89 (by unfold PR; omega)).trans h899
        have e37 := (hJ14.1.2.1.1 90 (by unfold PR; omega)).trans h909
        have e38 := (hJ14.1.2.1.1 91 (by unfold PR; omega)).trans h919
        refine v_bipush (v := (-6)) C dX9_run_26 (by decide) ?_
        refine b_icmp_ne C 48 dX9_run_28 (by decide) (rfl : Int32.toInt r11 = _) (show ((-6) : Int32).toInt = (-6) by decide) (fun c39 => ?_) (fun c39 => absurd (by have := c39; omega) hp13)
        refine v_ldc C dX9_run_48 kX9_252 ?_
        exact v_ret C dX9_run_50 rfl rfl ⟨(ti_any (-2000000000)), ((hJ15.outB (k := 35) (by decide) (show (bd 35).1 ≤ 0 by omega) (show 8 ≤ (bd 35).2 by omega)).outB (k := 32) (by decide) (show (bd 32).1 ≤ (fl (p.toInt).toNat).toInt by omega) (show (fl (p.toInt).toNat).toInt ≤ (bd 32).2 by omega))⟩
    · refine b_if_ne C 17 dX9_run_11 (by decide) (show (0 : Int32).toInt = 0 by decide) (fun c40 => absurd c40 (by decide)) (fun c40 => ?_)
      refine v_ldc C dX9_run_14 kX9_252 ?_
      exact v_ret C dX9_run_16 rfl rfl ⟨(ti_any (-2000000000)), hJ⟩
  · refine b_if_eq C 14 dX9_run_4 (by decide) (show (0 : Int32).toInt = 0 by decide) (fun c41 => ?_) (fun c41 => absurd c41 (by decide))
    refine v_ldc C dX9_run_14 kX9_252 ?_
    exact v_ret C dX9_run_16 rfl rfl ⟨(ti_any (-2000000000)), hJ⟩

set_option maxRecDepth 20000 in
theorem ty_X9_keeps (l : Launch) (G : Gl) (ad : Nat → Nat) {Z : (Nat → va_E) → Prop} {kn : Int} {n : Nat} {ic md : Nat → Int32} {bd : Nat → Int × Int} {E0 E : Nat → va_E} (hJ : JY l Z kn G ad n ic md bd PT E0 E) {gop gx gy fl : Nat → Int32} (hgo : E0 85 = aI G 60 gop) (hgx : E0 86 = aI G 60 gx) (hgy : E0 87 = aI G 60 gy) (hgl : E0 88 = aI G 6 fl) (hbl : ∀ k, 0 ≤ (fl k).toInt ∧ (fl k).toInt ≤ 10) (hLX : LXg gop gx) (hf32 : ((0 : Int) ≤ (bd 32).1 ∧ (bd 32).2 ≤ 10) ∧ ((bd 32).1 ≤ 0 ∧ 10 ≤ (bd 32).2)) (hf35 : ((0 : Int) ≤ (bd 35).1 ∧ (bd 35).2 ≤ 8) ∧ ((bd 35).1 ≤ 0 ∧ 8 ≤ (bd 35).2)) (p : Int32) (x : Int32) (y : Int32) (v : Int32) : CtI l G yX9_keeps cX9_keeps 5 .int 9 223 (n) ad E [.ref (ad 68), .int p, .int x, .int y, .int v] (fun r E' => ((-2147483648 : Int) ≤ r.toInt ∧ r.toInt ≤ 2147483647) ∧ JY l Z kn G ad n ic md bd PT E0 E') := by
  refine CtI.of (by decide) (Nat.le_of_ble_eq_true rfl) (fun X A C => ?_)
  refine v_sub (lv' := [(0, .ref (ad 68)), (1, .int p), (2, .int x), (3, .int y), (4, .int v)]) [0, 1, 2, 3, 4] rfl ?_
  have hn := hJ.hn
  have hz16 := hJ.1.2.2.2.2
  refine v_iload_n C 1 dX9_keeps_0 rfl rfl ?_
  refine v_cSp C dX9_keeps_1 lX9_194 mX9_isProgram (ty_X9_isProgram l G ad hJ.self p) ⟨by decide, by decide⟩ rfl (Nat.le_of_ble_eq_true rfl) ⟨Nat.zero_le _, Nat.zero_le _⟩ (fun r1 hp2 => ?_)
  rcases hp2 with ⟨rfl, hp2⟩ | ⟨rfl, hp2⟩
  · refine b_if_eq C 24 dX9_keeps_4 (by decide) (show (1 : Int32).toInt = 1 by decide) (fun c3 => absurd c3 (by decide)) (fun c3 => ?_)
    refine v_aload_n C 0 dX9_keeps_7 rfl rfl ?_
    refine v_iload_n C 2 dX9_keeps_8 rfl rfl ?_
    refine v_iload_n C 3 dX9_keeps_9 rfl rfl ?_
    obtain ⟨im6, hM6, hb6⟩ := hJ.1.1
    have hq6 := hM6.b
    refine v_cVp C dX9_keeps_10 lX9_259 mX9_isLaw 68 (by omega) hM6.2.2.1 (by decide) rfl (ty_X9_isLaw l G ad hJ.self x y) ⟨by decide, by decide⟩ rfl (Nat.le_of_ble_eq_true rfl) ⟨Nat.zero_le _, Nat.zero_le _⟩ (fun r4 hp5 => ?_)
    rcases hp5 with ⟨rfl, hp5⟩ | ⟨rfl, hp5⟩
    · refine b_if_eq C 24 dX9_keeps_13 (by decide) (show (1 : Int32).toInt = 1 by decide) (fun c7 => absurd c7 (by decide)) (fun c7 => ?_)
      refine v_iload C 4 dX9_keeps_16 rfl ?_
      refine v_cSp C dX9_keeps_18 lX9_179 mX9_isMoment (ty_X9_isMoment l G ad hJ.self v) ⟨by decide, by decide⟩ rfl (Nat.le_of_ble_eq_true rfl) ⟨Nat.zero_le _, Nat.zero_le _⟩ (fun r8 hp9 => ?_)
      rcases hp9 with ⟨rfl, hp9⟩ | ⟨rfl, hp9⟩
      · refine b_if_ne C 26 dX9_keeps_21 (by decide) (show (1 : Int32).toInt = 1 by decide) (fun c10 => ?_) (fun c10 => absurd c10 (by decide))
        refine v_aload_n C 0 dX9_keeps_26 rfl rfl ?_
        refine v_iload_n C 1 dX9_keeps_27 rfl rfl ?_
        refine v_cVv C dX9_keeps_28 lX9_219 mX9_take 68 (by omega) hM6.2.2.1 (by decide) rfl (ty_X9_take l G ad hJ hgo hgx hgy hgl hbl p (show (0 : Int) ≤ Int32.toInt p ∧ Int32.toInt p ≤ 5 by omega)) ⟨by decide, by decide⟩ rfl (Nat.le_of_ble_eq_true rfl) ⟨Nat.zero_le _, Nat.zero_le _⟩ (fun E11 hT13 => ?_)
        obtain ⟨fo13, fx13, fy13, h8913, h9013, h9113, hT13, hJ12⟩ := hT13
        have hbm13 := hbl (p.toInt).toNat
        have hox13 : OXm fo13 fx13 ((fl (p.toInt).toNat).toInt).toNat := fun j hj hq => by have q := hT13 j hj; rw [q.1] at hq; rw [q.2.1]; exact hLX _ (by omega) hq
        refine v_aload_n C 0 dX9_keeps_31 rfl rfl ?_
        obtain ⟨im19, hM19, hb19⟩ := hJ12.1.1
        have hq19 := hM19.b
        refine v_cVi C dX9_keeps_32 lX9_222 mX9_mixOf 68 (by omega) hM19.2.2.1 (by decide) rfl (ty_X9_mixOf l G ad hJ12.self h8913 (show ((fl (p.toInt).toNat).toInt).toNat ≤ 10 by omega) (show ((((fl (p.toInt).toNat).toInt).toNat : Nat) : Int) ≤ (fl (p.toInt).toNat).toInt ∧ (fl (p.toInt).toNat).toInt ≤ ((((fl (p.toInt).toNat).toInt).toNat : Nat) : Int) by omega)) ⟨by decide, by decide⟩ rfl (Nat.le_of_ble_eq_true rfl) ⟨Nat.zero_le _, Nat.zero_le _⟩ (fun r14 E15 hp16 => ?_)
        rcases hp16 with ⟨hp16, hp16k, hJ17⟩ | ⟨hp16, hJ17⟩
        · have hJ18 := hJ12.trans (fun _ => PT_PR) hJ17
          have e20 := (hJ17.1.2.1.1 89 (by unfold PR; omega)).trans h8913
          have e21 := (hJ17.1.2.1.1 90 (by unfold PR; omega)).trans h9013
          have e22 := (hJ17.1.2.1.1 91 (by unfold PR; omega)).trans h9113
          obtain rfl : r14 = (-6 : Int32) := ti_ext (hp16.trans (by decide))
          refine v_bipush (v := (-6)) C dX9_keeps_35 (by decide) ?_
          refine b_icmp_eq C 45 dX9_keeps_37 (by decide) (show ((-6) : Int32).toInt = (-6) by decide) (show ((-6) : Int32).toInt = (-6) by decide) (fun c23 => ?_) (fun c23 => absurd c23 (by decide))
          refine v_aload_n C 0 dX9_keeps_45 rfl rfl ?_
          refine v_iload_n C 2 dX9_keeps_46 rfl rfl ?_
          refine v_iload_n C 3 dX9_keeps_47 rfl rfl ?_
          refine v_iload C 4 dX9_keeps_48 rfl ?_
          obtain ⟨im28, hM28, hb28⟩ := hJ18.1.1
          have hq28 := hM28.b
          refine v_cVi C dX9_keeps_50 lX9_262 mX9_isKept 68 (by omega) hM28.2.2.1 (by decide) rfl (ty_X9_isKept l G ad hJ18.self e20 e21 (show ((fl (p.toInt).toNat).toInt).toNat ≤ 10 by omega) hp16k hox13 (show ((((fl (p.toInt).toNat).toInt).toNat : Nat) : Int) ≤ (fl (p.toInt).toNat).toInt ∧ (fl (p.toInt).toNat).toInt ≤ ((((fl (p.toInt).toNat).toInt).toNat : Nat) : Int) by omega) x (show (0 : Int) ≤ Int32.toInt x ∧ Int32.toInt x ≤ 2147483647 by have := ti_any x; omega) y v (by omega)) ⟨by decide, by decide⟩ rfl (Nat.le_of_ble_eq_true rfl) ⟨Nat.zero_le _, Nat.zero_le _⟩ (fun r24 E25 hp26 => ?_)
          obtain ⟨hp26, hJ27⟩ := hp26
          have hJ29 := hJ18.trans (fun _ => PT_PR) hJ27
          have e30 := (hJ27.1.2.1.1 89 (by unfold PR; omega)).trans e20
          have e31 := (hJ27.1.2.1.1 90 (by unfold PR; omega)).trans e21
          have e32 := (hJ27.1.2.1.1 91 (by unfold PR; omega)).trans e22
          rcases hp26 with rfl | rfl
          · refine b_if_eq C 60 dX9_keeps_53 (by decide) (show (0 : Int32).toInt = 0 by decide) (fun c33 => ?_) (fun c33 => absurd c33 (by decide))
            refine v_iconst (v := 0) C dX9_keeps_60 (by decide) ?_
            exact v_ret C dX9_keeps_61 rfl rfl ⟨(ti_any 0), ((hJ29.outB (k := 35) (by decide) (show (bd 35).1 ≤ 0 by omega) (show 8 ≤ (bd 35).2 by omega)).outB (k := 32) (by decide) (show (bd 32).1 ≤ (fl (p.toInt).toNat).toInt by omega) (show (fl (p.toInt).toNat).toInt ≤ (bd 32).2 by omega))⟩
          · refine b_if_eq C 60 dX9_keeps_53 (by decide) (show (1 : Int32).toInt = 1 by decide) (fun c34 => absurd c34 (by decide)) (fun c34 => ?_)
            refine v_iconst (v := 1) C dX9_keeps_56 (by decide) ?_
            refine v_goto C 61 dX9_keeps_57 (by decide) ?_
            exact v_ret C dX9_keeps_61 rfl rfl ⟨(ti_any 1), ((hJ29.outB (k := 35) (by decide) (show (bd 35).1 ≤ 0 by omega) (show 8 ≤ (bd 35).2 by omega)).outB (k := 32) (by decide) (show (bd 32).1 ≤ (fl (p.toInt).toNat).toInt by omega) (show (fl (p.toInt).toNat).toInt ≤ (bd 32).2 by omega))⟩
        · have hJ18 := hJ12.trans (fun _ => PT_PR) hJ17
          have e35 := (hJ17.1.2.1.1 89 (by unfold PR; omega)).trans h8913
          have e36 := (hJ17.1.2.1.1 90 (by unfold PR; omega)).trans h9013
          have e37 := (hJ17.1.2.1.1 91 (by unfold PR; omega)).trans h9113
          refine v_bipush (v := (-6)) C dX9_keeps_35 (by decide) ?_
          refine b_icmp_eq C 45 dX9_keeps_37 (by decide) (rfl : Int32.toInt r14 = _) (show ((-6) : Int32).toInt = (-6) by decide) (fun c38 => absurd c38 hp16) (fun c38 => ?_)
          refine v_bipush (v := (-4)) C dX9_keeps_40 (by decide) ?_
          refine v_goto C 61 dX9_keeps_42 (by decide) ?_
          exact v_ret C dX9_keeps_61 rfl rfl ⟨(ti_any (-4)), ((hJ18.outB (k := 35) (by decide) (show (bd 35).1 ≤ 0 by omega) (show 8 ≤ (bd 35).2 by omega)).outB (k := 32) (by decide) (show (bd 32).1 ≤ (fl (p.toInt).toNat).toInt by omega) (show (fl (p.toInt).toNat).toInt ≤ (bd 32).2 by omega))⟩
      · refine b_if_ne C 26 dX9_keeps_21 (by decide) (show (0 : Int32).toInt = 0 by decide) (fun c39 => absurd c39 (by decide)) (fun c39 => ?_)
        refine v_iconst (v := (-1)) C dX9_keeps_24 (by decide) ?_
        exact v_ret C dX9_keeps_25 rfl rfl ⟨(ti_any (-1)), hJ⟩
    · refine b_if_eq C 24 dX9_keeps_13 (by decide) (show (0 : Int32).toInt = 0 by decide) (fun c40 => ?_) (fun c40 => absurd c40 (by decide))
      refine v_iconst (v := (-1)) C dX9_keeps_24 (by decide) ?_
      exact v_ret C dX9_keeps_25 rfl rfl ⟨(ti_any (-1)), hJ⟩
  · refine b_if_eq C 24 dX9_keeps_4 (by decide) (show (0 : Int32).toInt = 0 by decide) (fun c41 => ?_) (fun c41 => absurd c41 (by decide))
    refine v_iconst (v := (-1)) C dX9_keeps_24 (by decide) ?_
    exact v_ret C dX9_keeps_25 rfl rfl ⟨(ti_any (-1)), hJ⟩

set_option maxRecDepth 20000 in
theorem ty_X9_addOdd (l : Launch) (G : Gl) (ad : Nat → Nat) {Z : (Nat → va_E) → Prop} {kn : Int} {n : Nat} {ic md : Nat → Int32} {bd : Nat → Int × Int} {E0 E : Nat → va_E} {c : Int} (hJ : JY l Z kn G ad n ic md (upB bd 41 (0, c)) PR E0 E) (hc : 0 ≤ c ∧ c ≤ 39999) (x : Int32) (y : Int32) (z : Int32) : CtV l G yX9_addOdd cX9_addOdd 4 0 0 (n) ad E [.ref (ad 68), .int x, .int y, .int z] (fun E' => JY l Z kn G ad n ic md (upB bd 41 (0, c + 1)) PR E0 E') := by
  refine CtV.of (by decide) (Nat.le_of_ble_eq_true rfl) (fun X A C => ?_)
  refine v_sub (lv' := [(0, .ref (ad 68)), (1, .int x), (2, .int y), (3, .int z)]) [0, 1, 2, 3] rfl ?_
  have hn := hJ.hn
  have hz16 := upB_n16 (by decide) hJ.1.2.2.2.2
  refine v_iload_n C 1 dX9_addOdd_0 rfl rfl ?_
  refine v_iload_n C 2 dX9_addOdd_1 rfl rfl ?_
  refine b_icmp_lt C 30 dX9_addOdd_2 (by decide) (rfl : Int32.toInt x = _) (rfl : Int32.toInt y = _) (fun c1 => ?_) (fun c1 => ?_)
  · exact v_vret C dX9_addOdd_30 rfl (hJ.toB (by decide) (by omega) (by omega))
  · refine v_iload_n C 1 dX9_addOdd_5 rfl rfl ?_
    refine v_iload_n C 3 dX9_addOdd_6 rfl rfl ?_
    refine b_icmp_gt C 30 dX9_addOdd_7 (by decide) (rfl : Int32.toInt x = _) (rfl : Int32.toInt z = _) (fun c2 => ?_) (fun c2 => ?_)
    · exact v_vret C dX9_addOdd_30 rfl (hJ.toB (by decide) (by omega) (by omega))
    · refine v_aload_n C 0 dX9_addOdd_10 rfl rfl ?_
      obtain ⟨im3, hM3, hb3⟩ := hJ.1.1
      have hq3 := hM3.b
      refine v_getr C 68 dX9_addOdd_11 fX9_113 (by omega) hM3.2.2.1 rfl rfl ?_
      refine v_aload_n C 0 dX9_addOdd_14 rfl rfl ?_
      refine v_geti (v := im3 41) C 68 dX9_addOdd_15 fX9_265 (by omega) hM3.2.2.1 rfl rfl ?_
      have him3_41 : (0 : Int) ≤ (im3 41).toInt ∧ (im3 41).toInt ≤ c := hb3 41
      refine v_iload_n C 1 dX9_addOdd_18 rfl rfl ?_
      obtain ⟨f5, hE5, hb5⟩ := hJ.1.2.1.getA (b := 97) (by omega) rfl
      refine v_ast C 97 dX9_addOdd_19 (by omega) hE5 (ti_in (rfl : Int32.toInt (im3 41) = _) (by omega) (by omega)) (fun E6 hE6_97 oE6 => ?_)
      rw [ti_cl (rfl : Int32.toInt (im3 41) = _)] at hE6_97
      have hE6_68 := (oE6 68 (by decide)).trans hM3.2.2.1
      have hJ7 := hJ.with (hJ.1.2.1.setA rfl (by unfold PR; omega) hb5 (ti_any x) hE6_97 oE6) (oE6 68 (by decide)) (oE6 69 (by decide)) (oE6 70 (by decide)) (fun j _ _ => oE6 j (by omega))
      have hM8 := hM3.of (oE6 68 (by decide)) (oE6 69 (by decide)) (oE6 70 (by decide))
      refine v_aload_n C 0 dX9_addOdd_20 rfl rfl ?_
      refine v_dup C dX9_addOdd_21 rfl ?_
      refine v_geti (v := im3 41) C 68 dX9_addOdd_22 fX9_265 (by omega) hM8.2.2.1 rfl rfl ?_
      refine v_iconst (v := 1) C dX9_addOdd_25 (by decide) ?_
      refine v_iadd C dX9_addOdd_26 ?_
      refine v_top (fun x9 ex9 => ?_)
      have hx9 : x9.toInt = ((im3 41).toInt + 1) := by rw [ex9]; exact ti_add (rfl : Int32.toInt (im3 41) = _) (show (1 : Int32).toInt = 1 by decide) (by omega) (by omega)
      refine v_puti C 68 dX9_addOdd_27 fX9_265 (by omega) hM8.2.2.1 rfl rfl rfl rfl (fun E10 hE10_68 oE10 => ?_)
      obtain ⟨hJ11, hM12, hb13⟩ := hJ7.putB hM8 hb3 (k := 41) (v := x9) (by decide) (by unfold PR; omega) hE10_68 oE10
      exact v_vret C dX9_addOdd_30 rfl (hJ11.toB (by decide) (by omega) (by omega))

set_option maxRecDepth 20000 in
theorem ty_X9_sink (l : Launch) (G : Gl) (ad : Nat → Nat) {Z : (Nat → va_E) → Prop} {kn : Int} {n : Nat} {ic md : Nat → Int32} {bd : Nat → Int × Int} {E0 E : Nat → va_E} (hJ : JY l Z kn G ad n ic md bd PR E0 E) (x : Int32) (hx : (0 : Int) ≤ x.toInt ∧ x.toInt ≤ 40000) (y : Int32) (hy : (0 : Int) ≤ y.toInt ∧ y.toInt ≤ 40000) : CtV l G yX9_sink cX9_sink 7 0 0 (n) ad E [.ref (ad 68), .int x, .int y] (fun E' => JY l Z kn G ad n ic md bd PR E0 E') := by
  refine CtV.of (by decide) (Nat.le_of_ble_eq_true rfl) (fun X A C => ?_)
  refine v_sub (lv' := [(0, .ref (ad 68)), (1, .int x), (2, .int y)]) [0, 1, 2] rfl ?_
  have hn := hJ.hn
  have hz16 := hJ.1.2.2.2.2
  refine v_iload_n C 1 dX9_sink_0 rfl rfl ?_
  refine v_istore_n (lv' := [(0, .ref (ad 68)), (1, .int x), (2, .int y), (3, .int x)]) C [1, 2, 3, 0] dX9_sink_1 rfl (by decide) rfl ?_
  refine v_iconst (v := 1) C dX9_sink_2 (by decide) ?_
  refine v_istore (lv' := [(0, .ref (ad 68)), (1, .int x), (2, .int y), (3, .int x), (4, .int 1)]) C [1, 2, 3, 4, 0] dX9_sink_3 (by decide) rfl ?_
  have LP1 : ∀ (t : Nat) (E4 : Nat → va_E) (y2 : Int32) (y3 : Int32), JY l Z kn G ad n ic md bd PR E0 E4 → ((0 : Int) ≤ y2.toInt ∧ y2.toInt ≤ 40000) → ((0 : Int) ≤ y3.toInt ∧ y3.toInt ≤ 1) → 40001 - y2.toInt + y3.toInt < (t : Int) → V X G A 7 (QV X G A (n) ad (fun E' => JY l Z kn G ad n ic md bd PR E0 E')) n ad 0 0 E4 5 [(0, .ref (ad 68)), (1, .int x), (2, .int y), (3, .int y2), (4, .int y3)] [] := by
    intro t8
    induction t8 with
    | zero => intro E4 y2 y3 hJ5 hy2 hy3 hm7; exfalso; omega
    | succ t8 ih6 =>
      intro E4 y2 y3 hJ5 hy2 hy3 hm7
      refine v_iload C 4 dX9_sink_5 rfl ?_
      refine b_if_eq C 128 dX9_sink_7 (by decide) (rfl : Int32.toInt y3 = _) (fun c9 => ?_) (fun c9 => ?_)
      · exact v_vret C dX9_sink_128 rfl hJ5
      · refine v_iconst (v := 2) C dX9_sink_10 (by decide) ?_
        refine v_iload_n C 3 dX9_sink_11 rfl rfl ?_
        refine v_imul C dX9_sink_12 ?_
        refine v_top (fun x10 ex10 => ?_)
        have hx10 : x10.toInt = (2 * y2.toInt) := by rw [ex10]; exact ti_mul (show (2 : Int32).toInt = 2 by decide) (rfl : Int32.toInt y2 = _) (by omega) (by omega)
        refine v_iconst (v := 1) C dX9_sink_13 (by decide) ?_
        refine v_iadd C dX9_sink_14 ?_
        refine v_top (fun x11 ex11 => ?_)
        have hx11 : x11.toInt = ((2 * y2.toInt) + 1) := by rw [ex11]; exact ti_add hx10 (show (1 : Int32).toInt = 1 by decide) (by omega) (by omega)
        refine v_iload_n C 2 dX9_sink_15 rfl rfl ?_
        refine b_icmp_ge C 128 dX9_sink_16 (by decide) hx11 (rfl : Int32.toInt y = _) (fun c12 => ?_) (fun c12 => ?_)
        · exact v_vret C dX9_sink_128 rfl hJ5
        · refine v_iconst (v := 2) C dX9_sink_19 (by decide) ?_
          refine v_iload_n C 3 dX9_sink_20 rfl rfl ?_
          refine v_imul C dX9_sink_21 ?_
          refine v_top (fun x13 ex13 => ?_)
          have hx13 : x13.toInt = (2 * y2.toInt) := by rw [ex13]; exact ti_mul (show (2 : Int32).toInt = 2 by decide) (rfl : Int32.toInt y2 = _) (by omega) (by omega)
          refine v_iconst (v := 1) C dX9_sink_22 (by decide) ?_
          refine v_iadd C dX9_sink_23 ?_
          refine v_top (fun x14 ex14 => ?_)
          have hx14 : x14.toInt = ((2 * y2.toInt) + 1) := by rw [ex14]; exact ti_add hx13 (show (1 : Int32).toInt = 1 by decide) (by omega) (by omega)
          refine v_istore (lv' := [(0, .ref (ad 68)), (1, .int x), (2, .int y), (3, .int y2), (4, .int y3), (5, .int x14)]) C [1, 2, 3, 4, 5, 0] dX9_sink_24 (by decide) rfl ?_
          refine v_iload C 5 dX9_sink_26 rfl ?_
          refine v_iconst (v := 1) C dX9_sink_28 (by decide) ?_
          refine v_iadd C dX9_sink_29 ?_
          refine v_top (fun x15 ex15 => ?_)
          have hx15 : x15.toInt = (((2 * y2.toInt) + 1) + 1) := by rw [ex15]; exact ti_add hx14 (show (1 : Int32).toInt = 1 by decide) (by omega) (by omega)
          refine v_iload_n C 2 dX9_sink_30 rfl rfl ?_
          refine b_icmp_ge C 60 dX9_sink_31 (by decide) hx15 (rfl : Int32.toInt y = _) (fun c16 => ?_) (fun c16 => ?_)
          · refine v_iload C 5 dX9_sink_60 rfl ?_
            refine v_istore (lv' := [(0, .ref (ad 68)), (1, .int x), (2, .int y), (3, .int y2), (4, .int y3), (5, .int x14)]) C [1, 2, 3, 4, 5, 0] dX9_sink_62 (by decide) rfl ?_
            refine v_aload_n C 0 dX9_sink_64 rfl rfl ?_
            obtain ⟨im17, hM17, hb17⟩ := hJ5.1.1
            have hq17 := hM17.b
            refine v_getr C 68 dX9_sink_65 fX9_113 (by omega) hM17.2.2.1 rfl rfl ?_
            refine v_iload C 5 dX9_sink_68 rfl ?_
            obtain ⟨f19, hE19, hb19⟩ := hJ5.1.2.1.getA (b := 97) (by omega) rfl
            refine v_ald (v := f19 (((2 * y2.toInt) + 1)).toNat) C 97 dX9_sink_70 (by omega) hE19 (ti_in hx14 (by omega) (by omega)) (by rw [ti_cl hx14]) ?_
            refine v_top (fun x20 _ => ?_)
            refine v_aload_n C 0 dX9_sink_71 rfl rfl ?_
            refine v_getr C 68 dX9_sink_72 fX9_113 (by omega) hM17.2.2.1 rfl rfl ?_
            refine v_iload_n C 3 dX9_sink_75 rfl rfl ?_
            refine v_ald (v := f19 (y2.toInt).toNat) C 97 dX9_sink_76 (by omega) hE19 (ti_in (rfl : Int32.toInt y2 = _) (by omega) (by omega)) (by rw [ti_cl (rfl : Int32.toInt y2 = _)]) ?_
            refine v_top (fun x21 _ => ?_)
            refine b_icmp_le C 84 dX9_sink_77 (by decide) (rfl : Int32.toInt x20 = _) (rfl : Int32.toInt x21 = _) (fun c22 => ?_) (fun c22 => ?_)
            · refine v_iconst (v := 0) C dX9_sink_84 (by decide) ?_
              refine v_istore (lv' := [(0, .ref (ad 68)), (1, .int x), (2, .int y), (3, .int y2), (4, .int 0), (5, .int x14)]) C [1, 2, 3, 4, 0, 5] dX9_sink_85 (by decide) rfl ?_
              refine v_iload C 4 dX9_sink_87 rfl ?_
              refine b_if_eq C 125 dX9_sink_89 (by decide) (show (0 : Int32).toInt = 0 by decide) (fun c23 => ?_) (fun c23 => absurd c23 (by decide))
              refine v_goto C 5 dX9_sink_125 (by decide) ?_
              refine v_sub (lv' := [(0, .ref (ad 68)), (1, .int x), (2, .int y), (3, .int y2), (4, .int 0)]) [0, 1, 2, 3, 4] rfl ?_
              exact ih6 _ y2 0 hJ5 (by have := (show (0 : Int32).toInt = 0 by decide); omega) (by have := (show (0 : Int32).toInt = 0 by decide); omega) (by have := (show (0 : Int32).toInt = 0 by decide); omega)
            · refine v_iconst (v := 1) C dX9_sink_80 (by decide) ?_
              refine v_goto C 85 dX9_sink_81 (by decide) ?_
              refine v_istore (lv' := [(0, .ref (ad 68)), (1, .int x), (2, .int y), (3, .int y2), (4, .int 1), (5, .int x14)]) C [1, 2, 3, 4, 0, 5] dX9_sink_85 (by decide) rfl ?_
              refine v_iload C 4 dX9_sink_87 rfl ?_
              refine b_if_eq C 125 dX9_sink_89 (by decide) (show (1 : Int32).toInt = 1 by decide) (fun c24 => absurd c24 (by decide)) (fun c24 => ?_)
              refine v_aload_n C 0 dX9_sink_92 rfl rfl ?_
              refine v_getr C 68 dX9_sink_93 fX9_113 (by omega) hM17.2.2.1 rfl rfl ?_
              refine v_iload C 5 dX9_sink_96 rfl ?_
              refine v_ald (v := f19 (((2 * y2.toInt) + 1)).toNat) C 97 dX9_sink_98 (by omega) hE19 (ti_in hx14 (by omega) (by omega)) (by rw [ti_cl hx14]) ?_
              refine v_top (fun x25 _ => ?_)
              refine v_istore (lv' := [(0, .ref (ad 68)), (1, .int x), (2, .int y), (3, .int y2), (4, .int 1), (5, .int x14), (6, .int x25)]) C [1, 2, 3, 4, 5, 6, 0] dX9_sink_99 (by decide) rfl ?_
              refine v_aload_n C 0 dX9_sink_101 rfl rfl ?_
              refine v_getr C 68 dX9_sink_102 fX9_113 (by omega) hM17.2.2.1 rfl rfl ?_
              refine v_iload C 5 dX9_sink_105 rfl ?_
              refine v_aload_n C 0 dX9_sink_107 rfl rfl ?_
              refine v_getr C 68 dX9_sink_108 fX9_113 (by omega) hM17.2.2.1 rfl rfl ?_
              refine v_iload_n C 3 dX9_sink_111 rfl rfl ?_
              refine v_ald (v := f19 (y2.toInt).toNat) C 97 dX9_sink_112 (by omega) hE19 (ti_in (rfl : Int32.toInt y2 = _) (by omega) (by omega)) (by rw [ti_cl (rfl : Int32.toInt y2 = _)]) ?_
              refine v_top (fun x26 _ => ?_)
              refine v_ast C 97 dX9_sink_113 (by omega) hE19 (ti_in hx14 (by omega) (by omega)) (fun E27 hE27_97 oE27 => ?_)
              rw [ti_cl hx14] at hE27_97
              have hE27_68 := (oE27 68 (by decide)).trans hM17.2.2.1
              have hJ28 := hJ5.with (hJ5.1.2.1.setA rfl (by unfold PR; omega) hb19 (ti_any x26) hE27_97 oE27) (oE27 68 (by decide)) (oE27 69 (by decide)) (oE27 70 (by decide)) (fun j _ _ => oE27 j (by omega))
              have hM29 := hM17.of (oE27 68 (by decide)) (oE27 69 (by decide)) (oE27 70 (by decide))
              refine v_aload_n C 0 dX9_sink_114 rfl rfl ?_
              refine v_getr C 68 dX9_sink_115 fX9_113 (by omega) hM29.2.2.1 rfl rfl ?_
              refine v_iload_n C 3 dX9_sink_118 rfl rfl ?_
              refine v_iload C 6 dX9_sink_119 rfl ?_
              obtain ⟨f31, hE31, hb31⟩ := hJ28.1.2.1.getA (b := 97) (by omega) rfl
              refine v_ast C 97 dX9_sink_121 (by omega) hE31 (ti_in (rfl : Int32.toInt y2 = _) (by omega) (by omega)) (fun E32 hE32_97 oE32 => ?_)
              rw [ti_cl (rfl : Int32.toInt y2 = _)] at hE32_97
              have hE32_68 := (oE32 68 (by decide)).trans hM29.2.2.1
              have hJ33 := hJ28.with (hJ28.1.2.1.setA rfl (by unfold PR; omega) hb31 (ti_any x25) hE32_97 oE32) (oE32 68 (by decide)) (oE32 69 (by decide)) (oE32 70 (by decide)) (fun j _ _ => oE32 j (by omega))
              have hM34 := hM29.of (oE32 68 (by decide)) (oE32 69 (by decide)) (oE32 70 (by decide))
              refine v_iload C 5 dX9_sink_122 rfl ?_
              refine v_istore_n (lv' := [(0, .ref (ad 68)), (1, .int x), (2, .int y), (3, .int x14), (4, .int 1), (5, .int x14), (6, .int x25)]) C [1, 2, 3, 0, 4, 5, 6] dX9_sink_124 rfl (by decide) rfl ?_
              refine v_goto C 5 dX9_sink_125 (by decide) ?_
              refine v_sub (lv' := [(0, .ref (ad 68)), (1, .int x), (2, .int y), (3, .int x14), (4, .int 1)]) [0, 1, 2, 3, 4] rfl ?_
              exact ih6 _ x14 1 hJ33 (by have := hx14; have := (show (1 : Int32).toInt = 1 by decide); omega) (by have := hx14; have := (show (1 : Int32).toInt = 1 by decide); omega) (by have := hx14; have := (show (1 : Int32).toInt = 1 by decide); omega)
          · refine v_aload_n C 0 dX9_sink_34 rfl rfl ?_
            obtain ⟨im35, hM35, hb35⟩ := hJ5.1.1
            have hq35 := hM35.b
            refine v_getr C 68 dX9_sink_35 fX9_113 (by omega) hM35.2.2.1 rfl rfl ?_
            refine v_iload C 5 dX9_sink_38 rfl ?_
            refine v_iconst (v := 1) C dX9_sink_40 (by decide) ?_
            refine v_iadd C dX9_sink_41 ?_
            refine v_top (fun x36 ex36 => ?_)
            have hx36 : x36.toInt = (((2 * y2.toInt) + 1) + 1) := by rw [ex36]; exact ti_add hx14 (show (1 : Int32).toInt = 1 by decide) (by omega) (by omega)
            obtain ⟨f38, hE38, hb38⟩ := hJ5.1.2.1.getA (b := 97) (by omega) rfl
            refine v_ald (v := f38 ((((2 * y2.toInt) + 1) + 1)).toNat) C 97 dX9_sink_42 (by omega) hE38 (ti_in hx36 (by omega) (by omega)) (by rw [ti_cl hx36]) ?_
            refine v_top (fun x39 _ => ?_)
            refine v_aload_n C 0 dX9_sink_43 rfl rfl ?_
            refine v_getr C 68 dX9_sink_44 fX9_113 (by omega) hM35.2.2.1 rfl rfl ?_
            refine v_iload C 5 dX9_sink_47 rfl ?_
            refine v_ald (v := f38 (((2 * y2.toInt) + 1)).toNat) C 97 dX9_sink_49 (by omega) hE38 (ti_in hx14 (by omega) (by omega)) (by rw [ti_cl hx14]) ?_
            refine v_top (fun x40 _ => ?_)
            refine b_icmp_le C 60 dX9_sink_50 (by decide) (rfl : Int32.toInt x39 = _) (rfl : Int32.toInt x40 = _) (fun c41 => ?_) (fun c41 => ?_)
            · refine v_iload C 5 dX9_sink_60 rfl ?_
              refine v_istore (lv' := [(0, .ref (ad 68)), (1, .int x), (2, .int y), (3, .int y2), (4, .int y3), (5, .int x14)]) C [1, 2, 3, 4, 5, 0] dX9_sink_62 (by decide) rfl ?_
              refine v_aload_n C 0 dX9_sink_64 rfl rfl ?_
              refine v_getr C 68 dX9_sink_65 fX9_113 (by omega) hM35.2.2.1 rfl rfl ?_
              refine v_iload C 5 dX9_sink_68 rfl ?_
              refine v_ald (v := f38 (((2 * y2.toInt) + 1)).toNat) C 97 dX9_sink_70 (by omega) hE38 (ti_in hx14 (by omega) (by omega)) (by rw [ti_cl hx14]) ?_
              refine v_top (fun x42 _ => ?_)
              refine v_aload_n C 0 dX9_sink_71 rfl rfl ?_
              refine v_getr C 68 dX9_sink_72 fX9_113 (by omega) hM35.2.2.1 rfl rfl ?_
              refine v_iload_n C 3 dX9_sink_75 rfl rfl ?_
              refine v_ald (v := f38 (y2.toInt).toNat) C 97 dX9_sink_76 (by omega) hE38 (ti_in (rfl : Int32.toInt y2 = _) (by omega) (by omega)) (by rw [ti_cl (rfl : Int32.toInt y2 = _)]) ?_
              refine v_top (fun x43 _ => ?_)
              refine b_icmp_le C 84 dX9_sink_77 (by decide) (rfl : Int32.toInt x42 = _) (rfl : Int32.toInt x43 = _) (fun c44 => ?_) (fun c44 => ?_)
              · refine v_iconst (v := 0) C dX9_sink_84 (by decide) ?_
                refine v_istore (lv' := [(0, .ref (ad 68)), (1, .int x), (2, .int y), (3, .int y2), (4, .int 0), (5, .int x14)]) C [1, 2, 3, 4, 0, 5] dX9_sink_85 (by decide) rfl ?_
                refine v_iload C 4 dX9_sink_87 rfl ?_
                refine b_if_eq C 125 dX9_sink_89 (by decide) (show (0 : Int32).toInt = 0 by decide) (fun c45 => ?_) (fun c45 => absurd c45 (by decide))
                refine v_goto C 5 dX9_sink_125 (by decide) ?_
                refine v_sub (lv' := [(0, .ref (ad 68)), (1, .int x), (2, .int y), (3, .int y2), (4, .int 0)]) [0, 1, 2, 3, 4] rfl ?_
                exact ih6 _ y2 0 hJ5 (by have := (show (0 : Int32).toInt = 0 by decide); omega) (by have := (show (0 : Int32).toInt = 0 by decide); omega) (by have := (show (0 : Int32).toInt = 0 by decide); omega)
              · refine v_iconst (v := 1) C dX9_sink_80 (by decide) ?_
                refine v_goto C 85 dX9_sink_81 (by decide) ?_
                refine v_istore (lv' := [(0, .ref (ad 68)), (1, .int x), (2, .int y), (3, .int y2), (4, .int 1), (5, .int x14)]) C [1, 2, 3, 4, 0, 5] dX9_sink_85 (by decide) rfl ?_
                refine v_iload C 4 dX9_sink_87 rfl ?_
                refine b_if_eq C 125 dX9_sink_89 (by decide) (show (1 : Int32).toInt = 1 by decide) (fun c46 => absurd c46 (by decide)) (fun c46 => ?_)
                refine v_aload_n C 0 dX9_sink_92 rfl rfl ?_
                refine v_getr C 68 dX9_sink_93 fX9_113 (by omega) hM35.2.2.1 rfl rfl ?_
                refine v_iload C 5 dX9_sink_96 rfl ?_
                refine v_ald (v := f38 (((2 * y2.toInt) + 1)).toNat) C 97 dX9_sink_98 (by omega) hE38 (ti_in hx14 (by omega) (by omega)) (by rw [ti_cl hx14]) ?_
                refine v_top (fun x47 _ => ?_)
                refine v_istore (lv' := [(0, .ref (ad 68)), (1, .int x), (2, .int y), (3, .int y2), (4, .int 1), (5, .int x14), (6, .int x47)]) C [1, 2, 3, 4, 5, 6, 0] dX9_sink_99 (by decide) rfl ?_
                refine v_aload_n C 0 dX9_sink_101 rfl rfl ?_
                refine v_getr C 68 dX9_sink_102 fX9_113 (by omega) hM35.2.2.1 rfl rfl ?_
                refine v_iload C 5 dX9_sink_105 rfl ?_
                refine v_aload_n C 0 dX9_sink_107 rfl rfl ?_
                refine v_getr C 68 dX9_sink_108 fX9_113 (by omega) hM35.2.2.1 rfl rfl ?_
                refine v_iload_n C 3 dX9_sink_111 rfl rfl ?_
                refine v_ald (v := f38 (y2.toInt).toNat) C 97 dX9_sink_112 (by omega) hE38 (ti_in (rfl : Int32.toInt y2 = _) (by omega) (by omega)) (by rw [ti_cl (rfl : Int32.toInt y2 = _)]) ?_
                refine v_top (fun x48 _ => ?_)
                refine v_ast C 97 dX9_sink_113 (by omega) hE38 (ti_in hx14 (by omega) (by omega)) (fun E49 hE49_97 oE49 => ?_)
                rw [ti_cl hx14] at hE49_97
                have hE49_68 := (oE49 68 (by decide)).trans hM35.2.2.1
                have hJ50 := hJ5.with (hJ5.1.2.1.setA rfl (by unfold PR; omega) hb38 (ti_any x48) hE49_97 oE49) (oE49 68 (by decide)) (oE49 69 (by decide)) (oE49 70 (by decide)) (fun j _ _ => oE49 j (by omega))
                have hM51 := hM35.of (oE49 68 (by decide)) (oE49 69 (by decide)) (oE49 70 (by decide))
                refine v_aload_n C 0 dX9_sink_114 rfl rfl ?_
                refine v_getr C 68 dX9_sink_115 fX9_113 (by omega) hM51.2.2.1 rfl rfl ?_
                refine v_iload_n C 3 dX9_sink_118 rfl rfl ?_
                refine v_iload C 6 dX9_sink_119 rfl ?_
                obtain ⟨f53, hE53, hb53⟩ := hJ50.1.2.1.getA (b := 97) (by omega) rfl
                refine v_ast C 97 dX9_sink_121 (by omega) hE53 (ti_in (rfl : Int32.toInt y2 = _) (by omega) (by omega)) (fun E54 hE54_97 oE54 => ?_)
                rw [ti_cl (rfl : Int32.toInt y2 = _)] at hE54_97
                have hE54_68 := (oE54 68 (by decide)).trans hM51.2.2.1
                have hJ55 := hJ50.with (hJ50.1.2.1.setA rfl (by unfold PR; omega) hb53 (ti_any x47) hE54_97 oE54) (oE54 68 (by decide)) (oE54 69 (by decide)) (oE54 70 (by decide)) (fun j _ _ => oE54 j (by omega))
                have hM56 := hM51.of (oE54 68 (by decide)) (oE54 69 (by decide)) (oE54 70 (by decide))
                refine v_iload C 5 dX9_sink_122 rfl ?_
                refine v_istore_n (lv' := [(0, .ref (ad 68)), (1, .int x), (2, .int y), (3, .int x14), (4, .int 1), (5, .int x14), (6, .int x47)]) C [1, 2, 3, 0, 4, 5, 6] dX9_sink_124 rfl (by decide) rfl ?_
                refine v_goto C 5 dX9_sink_125 (by decide) ?_
                refine v_sub (lv' := [(0, .ref (ad 68)), (1, .int x), (2, .int y), (3, .int x14), (4, .int 1)]) [0, 1, 2, 3, 4] rfl ?_
                exact ih6 _ x14 1 hJ55 (by have := hx14; have := (show (1 : Int32).toInt = 1 by decide); omega) (by have := hx14; have := (show (1 : Int32).toInt = 1 by decide); omega) (by have := hx14; have := (show (1 : Int32).toInt = 1 by decide); omega)
            · refine v_iload C 5 dX9_sink_53 rfl ?_
              refine v_iconst (v := 1) C dX9_sink_55 (by decide) ?_
              refine v_iadd C dX9_sink_56 ?_
              refine v_top (fun x57 ex57 => ?_)
              have hx57 : x57.toInt = (((2 * y2.toInt) + 1) + 1) := by rw [ex57]; exact ti_add hx14 (show (1 : Int32).toInt = 1 by decide) (by omega) (by omega)
              refine v_goto C 62 dX9_sink_57 (by decide) ?_
              refine v_istore (lv' := [(0, .ref (ad 68)), (1, .int x), (2, .int y), (3, .int y2), (4, .int y3), (5, .int x57)]) C [1, 2, 3, 4, 5, 0] dX9_sink_62 (by decide) rfl ?_
              refine v_aload_n C 0 dX9_sink_64 rfl rfl ?_
              refine v_getr C 68 dX9_sink_65 fX9_113 (by omega) hM35.2.2.1 rfl rfl ?_
              refine v_iload C 5 dX9_sink_68 rfl ?_
              refine v_ald (v := f38 ((((2 * y2.toInt) + 1) + 1)).toNat) C 97 dX9_sink_70 (by omega) hE38 (ti_in hx57 (by omega) (by omega)) (by rw [ti_cl hx57]) ?_
              refine v_top (fun x58 _ => ?_)
              refine v_aload_n C 0 dX9_sink_71 rfl rfl ?_
              refine v_getr C 68 dX9_sink_72 fX9_113 (by omega) hM35.2.2.1 rfl rfl ?_
              refine v_iload_n C 3 dX9_sink_75 rfl rfl ?_
              refine v_ald (v := f38 (y2.toInt).toNat) C 97 dX9_sink_76 (by omega) hE38 (ti_in (rfl : Int32.toInt y2 = _) (by omega) (by omega)) (by rw [ti_cl (rfl : Int32.toInt y2 = _)]) ?_
              refine v_top (fun x59 _ => ?_)
              refine b_icmp_le C 84 dX9_sink_77 (by decide) (rfl : Int32.toInt x58 = _) (rfl : Int32.toInt x59 = _) (fun c60 => ?_) (fun c60 => ?_)
              · refine v_iconst (v := 0) C dX9_sink_84 (by decide) ?_
                refine v_istore (lv' := [(0, .ref (ad 68)), (1, .int x), (2, .int y), (3, .int y2), (4, .int 0), (5, .int x57)]) C [1, 2, 3, 4, 0, 5] dX9_sink_85 (by decide) rfl ?_
                refine v_iload C 4 dX9_sink_87 rfl ?_
                refine b_if_eq C 125 dX9_sink_89 (by decide) (show (0 : Int32).toInt = 0 by decide) (fun c61 => ?_) (fun c61 => absurd c61 (by decide))
                refine v_goto C 5 dX9_sink_125 (by decide) ?_
                refine v_sub (lv' := [(0, .ref (ad 68)), (1, .int x), (2, .int y), (3, .int y2), (4, .int 0)]) [0, 1, 2, 3, 4] rfl ?_
                exact ih6 _ y2 0 hJ5 (by have := (show (0 : Int32).toInt = 0 by decide); omega) (by have := (show (0 : Int32).toInt = 0 by decide); omega) (by have := (show (0 : Int32).toInt = 0 by decide); omega)
              · refine v_iconst (v := 1) C dX9_sink_80 (by decide) ?_
                refine v_goto C 85 dX9_sink_81 (by decide) ?_
                refine v_istore (lv' := [(0, .ref (ad 68)), (1, .int x), (2, .int y), (3, .int y2), (4, .int 1), (5, .int x57)]) C [1, 2, 3, 4, 0, 5] dX9_sink_85 (by decide) rfl ?_
                refine v_iload C 4 dX9_sink_87 rfl ?_
                refine b_if_eq C 125 dX9_sink_89 (by decide) (show (1 : Int32).toInt = 1 by decide) (fun c62 => absurd c62 (by decide)) (fun c62 => ?_)
                refine v_aload_n C 0 dX9_sink_92 rfl rfl ?_
                refine v_getr C 68 dX9_sink_93 fX9_113 (by omega) hM35.2.2.1 rfl rfl ?_
                refine v_iload C 5 dX9_sink_96 rfl ?_
                refine v_ald (v := f38 ((((2 * y2.toInt) + 1) + 1)).toNat) C 97 dX9_sink_98 (by omega) hE38 (ti_in hx57 (by omega) (by omega)) (by rw [ti_cl hx57]) ?_
                refine v_top (fun x63 _ => ?_)
                refine v_istore (lv' := [(0, .ref (ad 68)), (1, .int x), (2, .int y), (3, .int y2), (4, .int 1), (5, .int x57), (6, .int x63)]) C [1, 2, 3, 4, 5, 6, 0] dX9_sink_99 (by decide) rfl ?_
                refine v_aload_n C 0 dX9_sink_101 rfl rfl ?_
                refine v_getr C 68 dX9_sink_102 fX9_113 (by omega) hM35.2.2.1 rfl rfl ?_
                refine v_iload C 5 dX9_sink_105 rfl ?_
                refine v_aload_n C 0 dX9_sink_107 rfl rfl ?_
                refine v_getr C 68 dX9_sink_108 fX9_113 (by omega) hM35.2.2.1 rfl rfl ?_
                refine v_iload_n C 3 dX9_sink_111 rfl rfl ?_
                refine v_ald (v := f38 (y2.toInt).toNat) C 97 dX9_sink_112 (by omega) hE38 (ti_in (rfl : Int32.toInt y2 = _) (by omega) (by omega)) (by rw [ti_cl (rfl : Int32.toInt y2 = _)]) ?_
                refine v_top (fun x64 _ => ?_)
                refine v_ast C 97 dX9_sink_113 (by omega) hE38 (ti_in hx57 (by omega) (by omega)) (fun E65 hE65_97 oE65 => ?_)
                rw [ti_cl hx57] at hE65_97
                have hE65_68 := (oE65 68 (by decide)).trans hM35.2.2.1
                have hJ66 := hJ5.with (hJ5.1.2.1.setA rfl (by unfold PR; omega) hb38 (ti_any x64) hE65_97 oE65) (oE65 68 (by decide)) (oE65 69 (by decide)) (oE65 70 (by decide)) (fun j _ _ => oE65 j (by omega))
                have hM67 := hM35.of (oE65 68 (by decide)) (oE65 69 (by decide)) (oE65 70 (by decide))
                refine v_aload_n C 0 dX9_sink_114 rfl rfl ?_
                refine v_getr C 68 dX9_sink_115 fX9_113 (by omega) hM67.2.2.1 rfl rfl ?_
                refine v_iload_n C 3 dX9_sink_118 rfl rfl ?_
                refine v_iload C 6 dX9_sink_119 rfl ?_
                obtain ⟨f69, hE69, hb69⟩ := hJ66.1.2.1.getA (b := 97) (by omega) rfl
                refine v_ast C 97 dX9_sink_121 (by omega) hE69 (ti_in (rfl : Int32.toInt y2 = _) (by omega) (by omega)) (fun E70 hE70_97 oE70 => ?_)
                rw [ti_cl (rfl : Int32.toInt y2 = _)] at hE70_97
                have hE70_68 := (oE70 68 (by decide)).trans hM67.2.2.1
                have hJ71 := hJ66.with (hJ66.1.2.1.setA rfl (by unfold PR; omega) hb69 (ti_any x63) hE70_97 oE70) (oE70 68 (by decide)) (oE70 69 (by decide)) (oE70 70 (by decide)) (fun j _ _ => oE70 j (by omega))
                have hM72 := hM67.of (oE70 68 (by decide)) (oE70 69 (by decide)) (oE70 70 (by decide))
                refine v_iload C 5 dX9_sink_122 rfl ?_
                refine v_istore_n (lv' := [(0, .ref (ad 68)), (1, .int x), (2, .int y), (3, .int x57), (4, .int 1), (5, .int x57), (6, .int x63)]) C [1, 2, 3, 0, 4, 5, 6] dX9_sink_124 rfl (by decide) rfl ?_
                refine v_goto C 5 dX9_sink_125 (by decide) ?_
                refine v_sub (lv' := [(0, .ref (ad 68)), (1, .int x), (2, .int y), (3, .int x57), (4, .int 1)]) [0, 1, 2, 3, 4] rfl ?_
                exact ih6 _ x57 1 hJ71 (by have := hx57; have := (show (1 : Int32).toInt = 1 by decide); omega) (by have := hx57; have := (show (1 : Int32).toInt = 1 by decide); omega) (by have := hx57; have := (show (1 : Int32).toInt = 1 by decide); omega)
  exact LP1 100000 _ x 1 hJ (by have := (show (1 : Int32).toInt = 1 by decide); omega) (by have := (show (1 : Int32).toInt = 1 by decide); omega) (by have := (show (1 : Int32).toInt = 1 by decide); omega)

set_option maxRecDepth 20000 in
theorem ty_X9_areOdds (l : Launch) (G : Gl) (ad : Nat → Nat) {Z : (Nat → va_E) → Prop} {kn : Int} {n : Nat} {ic md : Nat → Int32} {bd : Nat → Int × Int} {E0 E : Nat → va_E} (hJ : JY l Z kn G ad n ic md bd PR E0 E) (x : Int32) (y : Int32) : CtI l G yX9_areOdds cX9_areOdds 2 .boolean 2 42 (n) ad E [.int x, .int y] (fun r E' => ((r = 1 ∧ ((0 : Int) ≤ x.toInt ∧ x.toInt ≤ 59999999 ∧ 0 ≤ y.toInt ∧ y.toInt ≤ 59999999 ∧ x.toInt ≤ y.toInt ∧ y.toInt - x.toInt ≤ 2000000)) ∨ (r = 0 ∧ (0 : Int) ≤ 1)) ∧ E = E') := by
  refine CtI.of (by decide) (Nat.le_of_ble_eq_true rfl) (fun X A C => ?_)
  refine v_sub (lv' := [(0, .int x), (1, .int y)]) [0, 1] rfl ?_
  have hn := hJ.hn
  have hz16 := hJ.1.2.2.2.2
  refine v_iload_n C 0 dX9_areOdds_0 rfl rfl ?_
  refine v_cSp C dX9_areOdds_1 lX9_179 mX9_isMoment (ty_X9_isMoment l G ad hJ x) ⟨by decide, by decide⟩ rfl (Nat.le_of_ble_eq_true rfl) ⟨Nat.zero_le _, Nat.zero_le _⟩ (fun r1 hp2 => ?_)
  rcases hp2 with ⟨rfl, hp2⟩ | ⟨rfl, hp2⟩
  · refine b_if_eq C 32 dX9_areOdds_4 (by decide) (show (1 : Int32).toInt = 1 by decide) (fun c3 => absurd c3 (by decide)) (fun c3 => ?_)
    refine v_iload_n C 1 dX9_areOdds_7 rfl rfl ?_
    refine v_cSp C dX9_areOdds_8 lX9_179 mX9_isMoment (ty_X9_isMoment l G ad hJ y) ⟨by decide, by decide⟩ rfl (Nat.le_of_ble_eq_true rfl) ⟨Nat.zero_le _, Nat.zero_le _⟩ (fun r4 hp5 => ?_)
    rcases hp5 with ⟨rfl, hp5⟩ | ⟨rfl, hp5⟩
    · refine b_if_eq C 32 dX9_areOdds_11 (by decide) (show (1 : Int32).toInt = 1 by decide) (fun c6 => absurd c6 (by decide)) (fun c6 => ?_)
      refine v_iload_n C 0 dX9_areOdds_14 rfl rfl ?_
      refine v_iload_n C 1 dX9_areOdds_15 rfl rfl ?_
      refine b_icmp_gt C 32 dX9_areOdds_16 (by decide) (rfl : Int32.toInt x = _) (rfl : Int32.toInt y = _) (fun c7 => ?_) (fun c7 => ?_)
      · refine v_iconst (v := 0) C dX9_areOdds_32 (by decide) ?_
        exact v_ret C dX9_areOdds_33 rfl rfl ⟨Or.inr ⟨rfl, by omega⟩, rfl⟩
      · refine v_iload_n C 1 dX9_areOdds_19 rfl rfl ?_
        refine v_iload_n C 0 dX9_areOdds_20 rfl rfl ?_
        refine v_isub C dX9_areOdds_21 ?_
        refine v_top (fun x8 ex8 => ?_)
        have hx8 : x8.toInt = (y.toInt - x.toInt) := by rw [ex8]; exact ti_sub (rfl : Int32.toInt y = _) (rfl : Int32.toInt x = _) (by omega) (by omega)
        refine v_ldcw C dX9_areOdds_22 kX9_276 ?_
        refine b_icmp_gt C 32 dX9_areOdds_25 (by decide) hx8 (show (2000000 : Int32).toInt = 2000000 by decide) (fun c9 => ?_) (fun c9 => ?_)
        · refine v_iconst (v := 0) C dX9_areOdds_32 (by decide) ?_
          exact v_ret C dX9_areOdds_33 rfl rfl ⟨Or.inr ⟨rfl, by omega⟩, rfl⟩
        · refine v_iconst (v := 1) C dX9_areOdds_28 (by decide) ?_
          refine v_goto C 33 dX9_areOdds_29 (by decide) ?_
          exact v_ret C dX9_areOdds_33 rfl rfl ⟨Or.inl ⟨rfl, by omega⟩, rfl⟩
    · refine b_if_eq C 32 dX9_areOdds_11 (by decide) (show (0 : Int32).toInt = 0 by decide) (fun c10 => ?_) (fun c10 => absurd c10 (by decide))
      refine v_iconst (v := 0) C dX9_areOdds_32 (by decide) ?_
      exact v_ret C dX9_areOdds_33 rfl rfl ⟨Or.inr ⟨rfl, by omega⟩, rfl⟩
  · refine b_if_eq C 32 dX9_areOdds_4 (by decide) (show (0 : Int32).toInt = 0 by decide) (fun c11 => ?_) (fun c11 => absurd c11 (by decide))
    refine v_iconst (v := 0) C dX9_areOdds_32 (by decide) ?_
    exact v_ret C dX9_areOdds_33 rfl rfl ⟨Or.inr ⟨rfl, by omega⟩, rfl⟩

set_option maxRecDepth 20000 in
theorem ty_X9_isRow (l : Launch) (G : Gl) (ad : Nat → Nat) {Z : (Nat → va_E) → Prop} {kn : Int} {n : Nat} {ic md : Nat → Int32} {bd : Nat → Int × Int} {E0 E : Nat → va_E} (hJ : JY l Z kn G ad n ic md bd PR E0 E) (x : Int32) (y : Int32) (z : Int32) (hz : (0 : Int) ≤ z.toInt ∧ z.toInt ≤ 2000000) : CtI l G yX9_isRow cX9_isRow 3 .boolean 2 42 (n) ad E [.int x, .int y, .int z] (fun r E' => ((r = 1 ∧ ((0 : Int) ≤ x.toInt ∧ x.toInt ≤ 59999999 ∧ 0 ≤ y.toInt ∧ y.toInt ≤ z.toInt ∧ x.toInt + y.toInt ≤ 59999999)) ∨ (r = 0 ∧ (0 : Int) ≤ 1)) ∧ E = E') := by
  refine CtI.of (by decide) (Nat.le_of_ble_eq_true rfl) (fun X A C => ?_)
  refine v_sub (lv' := [(0, .int x), (1, .int y), (2, .int z)]) [0, 1, 2] rfl ?_
  have hn := hJ.hn
  have hz16 := hJ.1.2.2.2.2
  refine v_iload_n C 0 dX9_isRow_0 rfl rfl ?_
  refine v_cSp C dX9_isRow_1 lX9_179 mX9_isMoment (ty_X9_isMoment l G ad hJ x) ⟨by decide, by decide⟩ rfl (Nat.le_of_ble_eq_true rfl) ⟨Nat.zero_le _, Nat.zero_le _⟩ (fun r1 hp2 => ?_)
  rcases hp2 with ⟨rfl, hp2⟩ | ⟨rfl, hp2⟩
  · refine b_if_eq C 29 dX9_isRow_4 (by decide) (show (1 : Int32).toInt = 1 by decide) (fun c3 => absurd c3 (by decide)) (fun c3 => ?_)
    refine v_iload_n C 1 dX9_isRow_7 rfl rfl ?_
    refine v_iconst (v := 0) C dX9_isRow_8 (by decide) ?_
    refine v_iload_n C 2 dX9_isRow_9 rfl rfl ?_
    refine v_cSp C dX9_isRow_10 lX9_131 mX9_within (ty_X9_within l G ad hJ y 0 z) ⟨by decide, by decide⟩ rfl (Nat.le_of_ble_eq_true rfl) ⟨Nat.zero_le _, Nat.zero_le _⟩ (fun r4 hp5 => ?_)
    have := (show (0 : Int32).toInt = 0 by decide)
    rcases hp5 with ⟨rfl, hp5⟩ | ⟨rfl, hp5⟩
    · refine b_if_eq C 29 dX9_isRow_13 (by decide) (show (1 : Int32).toInt = 1 by decide) (fun c6 => absurd c6 (by decide)) (fun c6 => ?_)
      refine v_iload_n C 0 dX9_isRow_16 rfl rfl ?_
      refine v_iload_n C 1 dX9_isRow_17 rfl rfl ?_
      refine v_iadd C dX9_isRow_18 ?_
      refine v_top (fun x7 ex7 => ?_)
      have hx7 : x7.toInt = (x.toInt + y.toInt) := by rw [ex7]; exact ti_add (rfl : Int32.toInt x = _) (rfl : Int32.toInt y = _) (by omega) (by omega)
      refine v_cSp C dX9_isRow_19 lX9_179 mX9_isMoment (ty_X9_isMoment l G ad hJ x7) ⟨by decide, by decide⟩ rfl (Nat.le_of_ble_eq_true rfl) ⟨Nat.zero_le _, Nat.zero_le _⟩ (fun r8 hp9 => ?_)
      rcases hp9 with ⟨rfl, hp9⟩ | ⟨rfl, hp9⟩
      · refine b_if_eq C 29 dX9_isRow_22 (by decide) (show (1 : Int32).toInt = 1 by decide) (fun c10 => absurd c10 (by decide)) (fun c10 => ?_)
        refine v_iconst (v := 1) C dX9_isRow_25 (by decide) ?_
        refine v_goto C 30 dX9_isRow_26 (by decide) ?_
        exact v_ret C dX9_isRow_30 rfl rfl ⟨Or.inl ⟨rfl, by omega⟩, rfl⟩
      · refine b_if_eq C 29 dX9_isRow_22 (by decide) (show (0 : Int32).toInt = 0 by decide) (fun c11 => ?_) (fun c11 => absurd c11 (by decide))
        refine v_iconst (v := 0) C dX9_isRow_29 (by decide) ?_
        exact v_ret C dX9_isRow_30 rfl rfl ⟨Or.inr ⟨rfl, by omega⟩, rfl⟩
    · refine b_if_eq C 29 dX9_isRow_13 (by decide) (show (0 : Int32).toInt = 0 by decide) (fun c12 => ?_) (fun c12 => absurd c12 (by decide))
      refine v_iconst (v := 0) C dX9_isRow_29 (by decide) ?_
      exact v_ret C dX9_isRow_30 rfl rfl ⟨Or.inr ⟨rfl, by omega⟩, rfl⟩
  · refine b_if_eq C 29 dX9_isRow_4 (by decide) (show (0 : Int32).toInt = 0 by decide) (fun c13 => ?_) (fun c13 => absurd c13 (by decide))
    refine v_iconst (v := 0) C dX9_isRow_29 (by decide) ?_
    exact v_ret C dX9_isRow_30 rfl rfl ⟨Or.inr ⟨rfl, by omega⟩, rfl⟩

set_option maxRecDepth 20000 in
theorem ty_X9_findOdds (l : Launch) (G : Gl) (ad : Nat → Nat) {Z : (Nat → va_E) → Prop} {kn : Int} {n : Nat} {ic md : Nat → Int32} {bd : Nat → Int × Int} {E0 E : Nat → va_E} (hJ : JY l Z kn G ad n ic md bd PR E0 E) (hf41 : ((0 : Int) ≤ (bd 41).1 ∧ (bd 41).2 ≤ 40000) ∧ ((bd 41).1 ≤ 0 ∧ 40000 ≤ (bd 41).2)) (x : Int32) (hx : (0 : Int) ≤ x.toInt ∧ x.toInt ≤ 59999999) (y : Int32) (hy : (0 : Int) ≤ y.toInt ∧ y.toInt ≤ 59999999) (hxy : (x.toInt ≤ y.toInt ∧ y.toInt - x.toInt ≤ 2000000)) : CtV l G yX9_findOdds cX9_findOdds 8 5 123 (n) ad E [.ref (ad 68), .int x, .int y] (fun E' => JY l Z kn G ad n ic md bd PR E0 E') := by
  refine CtV.of (by decide) (Nat.le_of_ble_eq_true rfl) (fun X A C => ?_)
  refine v_sub (lv' := [(0, .ref (ad 68)), (1, .int x), (2, .int y)]) [0, 1, 2] rfl ?_
  have hn := hJ.hn
  have hz16 := hJ.1.2.2.2.2
  refine v_aload_n C 0 dX9_findOdds_0 rfl rfl ?_
  refine v_iconst (v := 0) C dX9_findOdds_1 (by decide) ?_
  obtain ⟨im1, hM1, hb1⟩ := hJ.1.1
  have hq1 := hM1.b
  refine v_puti C 68 dX9_findOdds_2 fX9_265 (by omega) hM1.2.2.1 rfl rfl rfl rfl (fun E2 hE2_68 oE2 => ?_)
  obtain ⟨hJ3, hM4, hb5⟩ := hJ.putN hM1 hb1 (k := 41) (v := (0 : Int32)) (by decide) (by unfold PR; omega) hE2_68 oE2
  have hlhJ3 : (0 : Int32).toInt = 0 := by decide
  refine v_aload_n C 0 dX9_findOdds_5 rfl rfl ?_
  refine v_iload_n C 1 dX9_findOdds_6 rfl rfl ?_
  refine v_iload_n C 1 dX9_findOdds_7 rfl rfl ?_
  refine v_iload_n C 2 dX9_findOdds_8 rfl rfl ?_
  refine v_cVv C dX9_findOdds_9 lX9_268 mX9_addOdd 68 (by omega) hE2_68 (by decide) rfl (ty_X9_addOdd l G ad (show JY l Z kn G ad n ic md (upB bd 41 (0, (0 : Int32).toInt)) PR E0 E2 from hJ3.toB (by decide) (by omega) (by omega)) (show (0 : Int) ≤ (0 : Int32).toInt ∧ (0 : Int32).toInt ≤ 39999 by omega) x x y) ⟨by decide, by decide⟩ rfl (Nat.le_of_ble_eq_true rfl) ⟨Nat.zero_le _, Nat.zero_le _⟩ (fun E6 hJ7 => ?_)
  refine v_aload_n C 0 dX9_findOdds_12 rfl rfl ?_
  refine v_iload_n C 2 dX9_findOdds_13 rfl rfl ?_
  refine v_iload_n C 1 dX9_findOdds_14 rfl rfl ?_
  refine v_iload_n C 2 dX9_findOdds_15 rfl rfl ?_
  obtain ⟨im10, hM10, hb10⟩ := hJ7.1.1
  have hq10 := hM10.b
  refine v_cVv C dX9_findOdds_16 lX9_268 mX9_addOdd 68 (by omega) hM10.2.2.1 (by decide) rfl (ty_X9_addOdd l G ad (show JY l Z kn G ad n ic md (upB bd 41 (0, (0 : Int32).toInt + 1)) PR E0 E6 from hJ7.toB (by decide) (by omega) (by omega)) (show (0 : Int) ≤ (0 : Int32).toInt + 1 ∧ (0 : Int32).toInt + 1 ≤ 39999 by omega) y x y) ⟨by decide, by decide⟩ rfl (Nat.le_of_ble_eq_true rfl) ⟨Nat.zero_le _, Nat.zero_le _⟩ (fun E8 hJ9 => ?_)
  refine v_iconst (v := 0) C dX9_findOdds_19 (by decide) ?_
  refine v_istore_n (lv' := [(0, .ref (ad 68)), (1, .int x), (2, .int y), (3, .int 0)]) C [1, 2, 3, 0] dX9_findOdds_20 rfl (by decide) rfl ?_
  have LP11 : ∀ (t : Nat) (E13 : Nat → va_E) (y12 : Int32), JY l Z kn G ad n ic md (upB bd 41 (0, 2 + 5188 * y12.toInt)) PR E0 E13 → ((0 : Int) ≤ y12.toInt ∧ y12.toInt ≤ 5) → 6 - y12.toInt < (t : Int) → V X G A 8 (QV X G A (n) ad (fun E' => JY l Z kn G ad n ic md bd PR E0 E')) n ad 0 0 E13 21 [(0, .ref (ad 68)), (1, .int x), (2, .int y), (3, .int y12)] [] := by
    intro t17
    induction t17 with
    | zero => intro E13 y12 hJ14 hy12 hm16; exfalso; omega
    | succ t17 ih15 =>
      intro E13 y12 hJ14 hy12 hm16
      refine v_iload_n C 3 dX9_findOdds_21 rfl rfl ?_
      refine v_aload_n C 0 dX9_findOdds_22 rfl rfl ?_
      obtain ⟨im18, hM18, hb18⟩ := hJ14.1.1
      have hq18 := hM18.b
      refine v_geti (v := im18 16) C 68 dX9_findOdds_23 fX9_135 (by omega) hM18.2.2.1 rfl rfl ?_
      have him18_16r : (bd 16).1 ≤ (im18 16).toInt ∧ (im18 16).toInt ≤ (bd 16).2 := hb18 16
      have him18_16 : (0 : Int) ≤ (im18 16).toInt ∧ (im18 16).toInt ≤ 5 := by omega
      refine b_icmp_ge C 204 dX9_findOdds_26 (by decide) (rfl : Int32.toInt y12 = _) (rfl : Int32.toInt (im18 16) = _) (fun c19 => ?_) (fun c19 => ?_)
      · refine v_aload_n C 0 dX9_findOdds_204 rfl rfl ?_
        refine v_geti (v := im18 41) C 68 dX9_findOdds_205 fX9_265 (by omega) hM18.2.2.1 rfl rfl ?_
        have him18_41 : (0 : Int) ≤ (im18 41).toInt ∧ (im18 41).toInt ≤ 2 + 5188 * y12.toInt := hb18 41
        refine v_iconst (v := 2) C dX9_findOdds_208 (by decide) ?_
        refine v_idiv C dX9_findOdds_209 (by decide) ?_
        refine v_top (fun x20 ex20 => ?_)
        have hx20 : x20.toInt = ((im18 41).toInt / 2) := by rw [ex20]; exact ti_div (rfl : Int32.toInt (im18 41) = _) (show (2 : Int32).toInt = 2 by decide) (by omega) (by omega)
        refine v_istore_n (lv' := [(0, .ref (ad 68)), (1, .int x), (2, .int y), (3, .int x20)]) C [1, 2, 3, 0] dX9_findOdds_210 rfl (by decide) rfl ?_
        have LP21 : ∀ (t : Nat) (E23 : Nat → va_E) (y22 : Int32), JY l Z kn G ad n ic md (upB bd 41 (0, 25942)) PR E0 E23 → ((-1 : Int) ≤ y22.toInt ∧ y22.toInt ≤ 20000) → y22.toInt + 1 < (t : Int) → V X G A 8 (QV X G A (n) ad (fun E' => JY l Z kn G ad n ic md bd PR E0 E')) n ad 0 0 E23 211 [(0, .ref (ad 68)), (3, .int y22)] [] := by
          intro t27
          induction t27 with
          | zero => intro E23 y22 hJ24 hy22 hm26; exfalso; omega
          | succ t27 ih25 =>
            intro E23 y22 hJ24 hy22 hm26
            refine v_iload_n C 1 dX9_findOdds_211 rfl rfl ?_
            refine b_if_lt C 230 dX9_findOdds_212 (by decide) (rfl : Int32.toInt y22 = _) (fun c28 => ?_) (fun c28 => ?_)
            · refine v_aload_n C 0 dX9_findOdds_230 rfl rfl ?_
              obtain ⟨im29, hM29, hb29⟩ := hJ24.1.1
              have hq29 := hM29.b
              refine v_geti (v := im29 41) C 68 dX9_findOdds_231 fX9_265 (by omega) hM29.2.2.1 rfl rfl ?_
              have him29_41 : (0 : Int) ≤ (im29 41).toInt ∧ (im29 41).toInt ≤ 25942 := hb29 41
              refine v_iconst (v := 1) C dX9_findOdds_234 (by decide) ?_
              refine v_isub C dX9_findOdds_235 ?_
              refine v_top (fun x30 ex30 => ?_)
              have hx30 : x30.toInt = ((im29 41).toInt - 1) := by rw [ex30]; exact ti_sub (rfl : Int32.toInt (im29 41) = _) (show (1 : Int32).toInt = 1 by decide) (by omega) (by omega)
              refine v_istore_n (lv' := [(0, .ref (ad 68)), (3, .int x30)]) C [1, 0] dX9_findOdds_236 rfl (by decide) rfl ?_
              have LP31 : ∀ (t : Nat) (E33 : Nat → va_E) (y32 : Int32), JY l Z kn G ad n ic md (upB bd 41 (0, 25942)) PR E0 E33 → ((-1 : Int) ≤ y32.toInt ∧ y32.toInt ≤ 39999) → y32.toInt + 1 < (t : Int) → V X G A 8 (QV X G A (n) ad (fun E' => JY l Z kn G ad n ic md bd PR E0 E')) n ad 0 0 E33 237 [(0, .ref (ad 68)), (3, .int y32)] [] := by
                intro t37
                induction t37 with
                | zero => intro E33 y32 hJ34 hy32 hm36; exfalso; omega
                | succ t37 ih35 =>
                  intro E33 y32 hJ34 hy32 hm36
                  refine v_iload_n C 1 dX9_findOdds_237 rfl rfl ?_
                  refine b_if_le C 281 dX9_findOdds_238 (by decide) (rfl : Int32.toInt y32 = _) (fun c38 => ?_) (fun c38 => ?_)
                  · refine v_iconst (v := 0) C dX9_findOdds_281 (by decide) ?_
                    refine v_istore_n (lv' := [(0, .ref (ad 68)), (3, .int 0)]) C [1, 0] dX9_findOdds_282 rfl (by decide) rfl ?_
                    refine v_iconst (v := 0) C dX9_findOdds_283 (by decide) ?_
                    refine v_istore (lv' := [(0, .ref (ad 68)), (3, .int 0), (4, .int 0)]) C [1, 2, 0] dX9_findOdds_284 (by decide) rfl ?_
                    have LP39 : ∀ (t : Nat) (E43 : Nat → va_E) (y40 : Int32) (y41 : Int32), JY l Z kn G ad n ic md (upB bd 41 (0, 25942)) PR E0 E43 → ((0 : Int) ≤ y40.toInt ∧ y40.toInt ≤ 40000) → ((0 : Int) ≤ y41.toInt ∧ y41.toInt ≤ 40000) → (y40.toInt ≤ y41.toInt) → 40001 - y41.toInt < (t : Int) → V X G A 8 (QV X G A (n) ad (fun E' => JY l Z kn G ad n ic md bd PR E0 E')) n ad 0 0 E43 286 [(0, .ref (ad 68)), (3, .int y40), (4, .int y41)] [] := by
                      intro t47
                      induction t47 with
                      | zero => intro E43 y40 y41 hJ44 hy40 hy41 hq42 hm46; exfalso; omega
                      | succ t47 ih45 =>
                        intro E43 y40 y41 hJ44 hy40 hy41 hq42 hm46
                        refine v_iload C 2 dX9_findOdds_286 rfl ?_
                        refine v_aload_n C 0 dX9_findOdds_288 rfl rfl ?_
                        obtain ⟨im48, hM48, hb48⟩ := hJ44.1.1
                        have hq48 := hM48.b
                        refine v_geti (v := im48 41) C 68 dX9_findOdds_289 fX9_265 (by omega) hM48.2.2.1 rfl rfl ?_
                        have him48_41 : (0 : Int) ≤ (im48 41).toInt ∧ (im48 41).toInt ≤ 25942 := hb48 41
                        refine b_icmp_ge C 339 dX9_findOdds_292 (by decide) (rfl : Int32.toInt y41 = _) (rfl : Int32.toInt (im48 41) = _) (fun c49 => ?_) (fun c49 => ?_)
                        · refine v_aload_n C 0 dX9_findOdds_339 rfl rfl ?_
                          refine v_iload_n C 1 dX9_findOdds_340 rfl rfl ?_
                          refine v_puti C 68 dX9_findOdds_341 fX9_265 (by omega) hM48.2.2.1 rfl rfl rfl rfl (fun E50 hE50_68 oE50 => ?_)
                          obtain ⟨hJ51, hM52, hb53⟩ := hJ44.putB hM48 hb48 (k := 41) (v := y40) (by decide) (by unfold PR; omega) hE50_68 oE50
                          exact v_vret C dX9_findOdds_344 rfl (hJ51.outB (k := 41) (by decide) (show (bd 41).1 ≤ y40.toInt by omega) (show y40.toInt ≤ (bd 41).2 by omega))
                        · refine v_iload_n C 1 dX9_findOdds_295 rfl rfl ?_
                          refine b_if_eq C 317 dX9_findOdds_296 (by decide) (rfl : Int32.toInt y40 = _) (fun c54 => ?_) (fun c54 => ?_)
                          · refine v_aload_n C 0 dX9_findOdds_317 rfl rfl ?_
                            refine v_getr C 68 dX9_findOdds_318 fX9_113 (by omega) hM48.2.2.1 rfl rfl ?_
                            refine v_iload_n C 1 dX9_findOdds_321 rfl rfl ?_
                            refine v_aload_n C 0 dX9_findOdds_322 rfl rfl ?_
                            refine v_getr C 68 dX9_findOdds_323 fX9_113 (by omega) hM48.2.2.1 rfl rfl ?_
                            refine v_iload C 2 dX9_findOdds_326 rfl ?_
                            obtain ⟨f56, hE56, hb56⟩ := hJ44.1.2.1.getA (b := 97) (by omega) rfl
                            refine v_ald (v := f56 (y41.toInt).toNat) C 97 dX9_findOdds_328 (by omega) hE56 (ti_in (rfl : Int32.toInt y41 = _) (by omega) (by omega)) (by rw [ti_cl (rfl : Int32.toInt y41 = _)]) ?_
                            refine v_top (fun x57 _ => ?_)
                            refine v_ast C 97 dX9_findOdds_329 (by omega) hE56 (ti_in (rfl : Int32.toInt y40 = _) (by omega) (by omega)) (fun E58 hE58_97 oE58 => ?_)
                            rw [ti_cl (rfl : Int32.toInt y40 = _)] at hE58_97
                            have hE58_68 := (oE58 68 (by decide)).trans hM48.2.2.1
                            have hJ59 := hJ44.with (hJ44.1.2.1.setA rfl (by unfold PR; omega) hb56 (ti_any x57) hE58_97 oE58) (oE58 68 (by decide)) (oE58 69 (by decide)) (oE58 70 (by decide)) (fun j _ _ => oE58 j (by omega))
                            have hM60 := hM48.of (oE58 68 (by decide)) (oE58 69 (by decide)) (oE58 70 (by decide))
                            obtain ⟨x61, ex61⟩ : ∃ y : Int32, y = y40 + 1 := ⟨_, rfl⟩
                            have hx61 : x61.toInt = (y40.toInt + 1) := by rw [ex61]; exact ti_add (rfl : Int32.toInt y40 = _) (show (1 : Int32).toInt = 1 by decide) (by omega) (by omega)
                            refine v_iinc (v := x61) (lv' := [(0, .ref (ad 68)), (3, .int x61), (4, .int y41)]) C 1 [1, 0, 2] dX9_findOdds_330 rfl (ex61.symm) (by decide) rfl ?_
                            obtain ⟨x62, ex62⟩ : ∃ y : Int32, y = y41 + 1 := ⟨_, rfl⟩
                            have hx62 : x62.toInt = (y41.toInt + 1) := by rw [ex62]; exact ti_add (rfl : Int32.toInt y41 = _) (show (1 : Int32).toInt = 1 by decide) (by omega) (by omega)
                            refine v_iinc (v := x62) (lv' := [(0, .ref (ad 68)), (3, .int x61), (4, .int x62)]) C 2 [1, 2, 0] dX9_findOdds_333 rfl (ex62.symm) (by decide) rfl ?_
                            refine v_goto C 286 dX9_findOdds_336 (by decide) ?_
                            exact ih45 _ x61 x62 (hJ59.toB (by decide) (by have := hx61; have := hx62; omega) (by have := hx61; have := hx62; omega)) (by have := hx61; have := hx62; omega) (by have := hx61; have := hx62; omega) (by have := hx61; have := hx62; omega) (by have := hx61; have := hx62; omega)
                          · refine v_aload_n C 0 dX9_findOdds_299 rfl rfl ?_
                            refine v_getr C 68 dX9_findOdds_300 fX9_113 (by omega) hM48.2.2.1 rfl rfl ?_
                            refine v_iload C 2 dX9_findOdds_303 rfl ?_
                            obtain ⟨f64, hE64, hb64⟩ := hJ44.1.2.1.getA (b := 97) (by omega) rfl
                            refine v_ald (v := f64 (y41.toInt).toNat) C 97 dX9_findOdds_305 (by omega) hE64 (ti_in (rfl : Int32.toInt y41 = _) (by omega) (by omega)) (by rw [ti_cl (rfl : Int32.toInt y41 = _)]) ?_
                            refine v_top (fun x65 _ => ?_)
                            refine v_aload_n C 0 dX9_findOdds_306 rfl rfl ?_
                            refine v_getr C 68 dX9_findOdds_307 fX9_113 (by omega) hM48.2.2.1 rfl rfl ?_
                            refine v_iload_n C 1 dX9_findOdds_310 rfl rfl ?_
                            refine v_iconst (v := 1) C dX9_findOdds_311 (by decide) ?_
                            refine v_isub C dX9_findOdds_312 ?_
                            refine v_top (fun x66 ex66 => ?_)
                            have hx66 : x66.toInt = (y40.toInt - 1) := by rw [ex66]; exact ti_sub (rfl : Int32.toInt y40 = _) (show (1 : Int32).toInt = 1 by decide) (by omega) (by omega)
                            refine v_ald (v := f64 ((y40.toInt - 1)).toNat) C 97 dX9_findOdds_313 (by omega) hE64 (ti_in hx66 (by omega) (by omega)) (by rw [ti_cl hx66]) ?_
                            refine v_top (fun x67 _ => ?_)
                            refine b_icmp_eq C 333 dX9_findOdds_314 (by decide) (rfl : Int32.toInt x65 = _) (rfl : Int32.toInt x67 = _) (fun c68 => ?_) (fun c68 => ?_)
                            · obtain ⟨x69, ex69⟩ : ∃ y : Int32, y = y41 + 1 := ⟨_, rfl⟩
                              have hx69 : x69.toInt = (y41.toInt + 1) := by rw [ex69]; exact ti_add (rfl : Int32.toInt y41 = _) (show (1 : Int32).toInt = 1 by decide) (by omega) (by omega)
                              refine v_iinc (v := x69) (lv' := [(0, .ref (ad 68)), (3, .int y40), (4, .int x69)]) C 2 [1, 2, 0] dX9_findOdds_333 rfl (ex69.symm) (by decide) rfl ?_
                              refine v_goto C 286 dX9_findOdds_336 (by decide) ?_
                              exact ih45 _ y40 x69 (hJ44.toB (by decide) (by have := hx69; omega) (by have := hx69; omega)) (by have := hx69; omega) (by have := hx69; omega) (by have := hx69; omega) (by have := hx69; omega)
                            · refine v_aload_n C 0 dX9_findOdds_317 rfl rfl ?_
                              refine v_getr C 68 dX9_findOdds_318 fX9_113 (by omega) hM48.2.2.1 rfl rfl ?_
                              refine v_iload_n C 1 dX9_findOdds_321 rfl rfl ?_
                              refine v_aload_n C 0 dX9_findOdds_322 rfl rfl ?_
                              refine v_getr C 68 dX9_findOdds_323 fX9_113 (by omega) hM48.2.2.1 rfl rfl ?_
                              refine v_iload C 2 dX9_findOdds_326 rfl ?_
                              refine v_ald (v := f64 (y41.toInt).toNat) C 97 dX9_findOdds_328 (by omega) hE64 (ti_in (rfl : Int32.toInt y41 = _) (by omega) (by omega)) (by rw [ti_cl (rfl : Int32.toInt y41 = _)]) ?_
                              refine v_top (fun x70 _ => ?_)
                              refine v_ast C 97 dX9_findOdds_329 (by omega) hE64 (ti_in (rfl : Int32.toInt y40 = _) (by omega) (by omega)) (fun E71 hE71_97 oE71 => ?_)
                              rw [ti_cl (rfl : Int32.toInt y40 = _)] at hE71_97
                              have hE71_68 := (oE71 68 (by decide)).trans hM48.2.2.1
                              have hJ72 := hJ44.with (hJ44.1.2.1.setA rfl (by unfold PR; omega) hb64 (ti_any x70) hE71_97 oE71) (oE71 68 (by decide)) (oE71 69 (by decide)) (oE71 70 (by decide)) (fun j _ _ => oE71 j (by omega))
                              have hM73 := hM48.of (oE71 68 (by decide)) (oE71 69 (by decide)) (oE71 70 (by decide))
                              obtain ⟨x74, ex74⟩ : ∃ y : Int32, y = y40 + 1 := ⟨_, rfl⟩
                              have hx74 : x74.toInt = (y40.toInt + 1) := by rw [ex74]; exact ti_add (rfl : Int32.toInt y40 = _) (show (1 : Int32).toInt = 1 by decide) (by omega) (by omega)
                              refine v_iinc (v := x74) (lv' := [(0, .ref (ad 68)), (3, .int x74), (4, .int y41)]) C 1 [1, 0, 2] dX9_findOdds_330 rfl (ex74.symm) (by decide) rfl ?_
                              obtain ⟨x75, ex75⟩ : ∃ y : Int32, y = y41 + 1 := ⟨_, rfl⟩
                              have hx75 : x75.toInt = (y41.toInt + 1) := by rw [ex75]; exact ti_add (rfl : Int32.toInt y41 = _) (show (1 : Int32).toInt = 1 by decide) (by omega) (by omega)
                              refine v_iinc (v := x75) (lv' := [(0, .ref (ad 68)), (3, .int x74), (4, .int x75)]) C 2 [1, 2, 0] dX9_findOdds_333 rfl (ex75.symm) (by decide) rfl ?_
                              refine v_goto C 286 dX9_findOdds_336 (by decide) ?_
                              exact ih45 _ x74 x75 (hJ72.toB (by decide) (by have := hx74; have := hx75; omega) (by have := hx74; have := hx75; omega)) (by have := hx74; have := hx75; omega) (by have := hx74; have := hx75; omega) (by have := hx74; have := hx75; omega) (by have := hx74; have := hx75; omega)
                    exact LP39 100000 _ 0 0 (hJ34.toB (by decide) (by have := (show (0 : Int32).toInt = 0 by decide); omega) (by have := (show (0 : Int32).toInt = 0 by decide); omega)) (by have := (show (0 : Int32).toInt = 0 by decide); omega) (by have := (show (0 : Int32).toInt = 0 by decide); omega) (by have := (show (0 : Int32).toInt = 0 by decide); omega) (by have := (show (0 : Int32).toInt = 0 by decide); omega)
                  · refine v_aload_n C 0 dX9_findOdds_241 rfl rfl ?_
                    obtain ⟨im76, hM76, hb76⟩ := hJ34.1.1
                    have hq76 := hM76.b
                    refine v_getr C 68 dX9_findOdds_242 fX9_113 (by omega) hM76.2.2.1 rfl rfl ?_
                    refine v_iconst (v := 0) C dX9_findOdds_245 (by decide) ?_
                    obtain ⟨f78, hE78, hb78⟩ := hJ34.1.2.1.getA (b := 97) (by omega) rfl
                    refine v_ald (v := f78 0) C 97 dX9_findOdds_246 (by omega) hE78 (ti_in (show (0 : Int32).toInt = 0 by decide) (by omega) (by omega)) (congrArg f78 (by decide)) ?_
                    refine v_top (fun x79 _ => ?_)
                    refine v_istore (lv' := [(0, .ref (ad 68)), (3, .int y32), (4, .int x79)]) C [1, 2, 0] dX9_findOdds_247 (by decide) rfl ?_
                    refine v_aload_n C 0 dX9_findOdds_249 rfl rfl ?_
                    refine v_getr C 68 dX9_findOdds_250 fX9_113 (by omega) hM76.2.2.1 rfl rfl ?_
                    refine v_iconst (v := 0) C dX9_findOdds_253 (by decide) ?_
                    refine v_aload_n C 0 dX9_findOdds_254 rfl rfl ?_
                    refine v_getr C 68 dX9_findOdds_255 fX9_113 (by omega) hM76.2.2.1 rfl rfl ?_
                    refine v_iload_n C 1 dX9_findOdds_258 rfl rfl ?_
                    refine v_ald (v := f78 (y32.toInt).toNat) C 97 dX9_findOdds_259 (by omega) hE78 (ti_in (rfl : Int32.toInt y32 = _) (by omega) (by omega)) (by rw [ti_cl (rfl : Int32.toInt y32 = _)]) ?_
                    refine v_top (fun x80 _ => ?_)
                    refine v_ast C 97 dX9_findOdds_260 (by omega) hE78 (ti_in (show (0 : Int32).toInt = 0 by decide) (by omega) (by omega)) (fun E81 hE81_97 oE81 => ?_)
                    rw [ti_cl (show (0 : Int32).toInt = 0 by decide), show Int.toNat 0 = 0 by omega] at hE81_97
                    have hE81_68 := (oE81 68 (by decide)).trans hM76.2.2.1
                    have hJ82 := hJ34.with (hJ34.1.2.1.setA rfl (by unfold PR; omega) hb78 (ti_any x80) hE81_97 oE81) (oE81 68 (by decide)) (oE81 69 (by decide)) (oE81 70 (by decide)) (fun j _ _ => oE81 j (by omega))
                    have hM83 := hM76.of (oE81 68 (by decide)) (oE81 69 (by decide)) (oE81 70 (by decide))
                    refine v_aload_n C 0 dX9_findOdds_261 rfl rfl ?_
                    refine v_getr C 68 dX9_findOdds_262 fX9_113 (by omega) hM83.2.2.1 rfl rfl ?_
                    refine v_iload_n C 1 dX9_findOdds_265 rfl rfl ?_
                    refine v_iload C 2 dX9_findOdds_266 rfl ?_
                    obtain ⟨f85, hE85, hb85⟩ := hJ82.1.2.1.getA (b := 97) (by omega) rfl
                    refine v_ast C 97 dX9_findOdds_268 (by omega) hE85 (ti_in (rfl : Int32.toInt y32 = _) (by omega) (by omega)) (fun E86 hE86_97 oE86 => ?_)
                    rw [ti_cl (rfl : Int32.toInt y32 = _)] at hE86_97
                    have hE86_68 := (oE86 68 (by decide)).trans hM83.2.2.1
                    have hJ87 := hJ82.with (hJ82.1.2.1.setA rfl (by unfold PR; omega) hb85 (ti_any x79) hE86_97 oE86) (oE86 68 (by decide)) (oE86 69 (by decide)) (oE86 70 (by decide)) (fun j _ _ => oE86 j (by omega))
                    have hM88 := hM83.of (oE86 68 (by decide)) (oE86 69 (by decide)) (oE86 70 (by decide))
                    refine v_aload_n C 0 dX9_findOdds_269 rfl rfl ?_
                    refine v_iconst (v := 0) C dX9_findOdds_270 (by decide) ?_
                    refine v_iload_n C 1 dX9_findOdds_271 rfl rfl ?_
                    refine v_cVv C dX9_findOdds_272 lX9_272 mX9_sink 68 (by omega) hM88.2.2.1 (by decide) rfl (ty_X9_sink l G ad hJ87 0 (show (0 : Int) ≤ Int32.toInt 0 ∧ Int32.toInt 0 ≤ 40000 by decide) y32 (show (0 : Int) ≤ Int32.toInt y32 ∧ Int32.toInt y32 ≤ 40000 by omega)) ⟨by decide, by decide⟩ rfl (Nat.le_of_ble_eq_true rfl) ⟨Nat.zero_le _, Nat.zero_le _⟩ (fun E90 hJ92 => ?_)
                    obtain ⟨x93, ex93⟩ : ∃ y : Int32, y = y32 + (-1) := ⟨_, rfl⟩
                    have hx93 : x93.toInt = (y32.toInt + (-1)) := by rw [ex93]; exact ti_add (rfl : Int32.toInt y32 = _) (show ((-1) : Int32).toInt = (-1) by decide) (by omega) (by omega)
                    refine v_iinc (v := x93) (lv' := [(0, .ref (ad 68)), (3, .int x93), (4, .int x79)]) C 1 [1, 0, 2] dX9_findOdds_275 rfl (ex93.symm) (by decide) rfl ?_
                    refine v_goto C 237 dX9_findOdds_278 (by decide) ?_
                    refine v_sub (lv' := [(0, .ref (ad 68)), (3, .int x93)]) [0, 1] rfl ?_
                    exact ih35 _ x93 (hJ92.toB (by decide) (by have := hx93; omega) (by have := hx93; omega)) (by have := hx93; omega) (by have := hx93; omega)
              exact LP31 100000 _ x30 (hJ24.toB (by decide) (by have := hx30; omega) (by have := hx30; omega)) (by have := hx30; omega) (by have := hx30; omega)
            · refine v_aload_n C 0 dX9_findOdds_215 rfl rfl ?_
              refine v_iload_n C 1 dX9_findOdds_216 rfl rfl ?_
              refine v_aload_n C 0 dX9_findOdds_217 rfl rfl ?_
              obtain ⟨im94, hM94, hb94⟩ := hJ24.1.1
              have hq94 := hM94.b
              refine v_geti (v := im94 41) C 68 dX9_findOdds_218 fX9_265 (by omega) hM94.2.2.1 rfl rfl ?_
              have him94_41 : (0 : Int) ≤ (im94 41).toInt ∧ (im94 41).toInt ≤ 25942 := hb94 41
              refine v_cVv C dX9_findOdds_221 lX9_272 mX9_sink 68 (by omega) hM94.2.2.1 (by decide) rfl (ty_X9_sink l G ad hJ24 y22 (show (0 : Int) ≤ Int32.toInt y22 ∧ Int32.toInt y22 ≤ 40000 by omega) (im94 41) (show (0 : Int) ≤ Int32.toInt (im94 41) ∧ Int32.toInt (im94 41) ≤ 40000 by omega)) ⟨by decide, by decide⟩ rfl (Nat.le_of_ble_eq_true rfl) ⟨Nat.zero_le _, Nat.zero_le _⟩ (fun E96 hJ98 => ?_)
              obtain ⟨x99, ex99⟩ : ∃ y : Int32, y = y22 + (-1) := ⟨_, rfl⟩
              have hx99 : x99.toInt = (y22.toInt + (-1)) := by rw [ex99]; exact ti_add (rfl : Int32.toInt y22 = _) (show ((-1) : Int32).toInt = (-1) by decide) (by omega) (by omega)
              refine v_iinc (v := x99) (lv' := [(0, .ref (ad 68)), (3, .int x99)]) C 1 [1, 0] dX9_findOdds_224 rfl (ex99.symm) (by decide) rfl ?_
              refine v_goto C 211 dX9_findOdds_227 (by decide) ?_
              exact ih25 _ x99 (hJ98.toB (by decide) (by have := hx99; omega) (by have := hx99; omega)) (by have := hx99; omega) (by have := hx99; omega)
        refine v_sub (lv' := [(0, .ref (ad 68)), (3, .int x20)]) [0, 3] rfl ?_
        exact LP21 100000 _ x20 (hJ14.toB (by decide) (by have := hx20; omega) (by have := hx20; omega)) (by have := hx20; omega) (by have := hx20; omega)
      · refine v_aload_n C 0 dX9_findOdds_29 rfl rfl ?_
        refine v_iload_n C 3 dX9_findOdds_30 rfl rfl ?_
        refine v_cVv C dX9_findOdds_31 lX9_171 mX9_find 68 (by omega) hM18.2.2.1 (by decide) rfl (ty_X9_find l G ad hJ14 y12 (show (0 : Int) ≤ Int32.toInt y12 ∧ Int32.toInt y12 ≤ 4 by omega)) ⟨by decide, by decide⟩ rfl (Nat.le_of_ble_eq_true rfl) ⟨Nat.zero_le _, Nat.zero_le _⟩ (fun E101 hJ103 => ?_)
        refine v_iconst (v := 1) C dX9_findOdds_34 (by decide) ?_
        refine v_istore (lv' := [(0, .ref (ad 68)), (1, .int x), (2, .int y), (3, .int y12), (4, .int 1)]) C [1, 2, 3, 4, 0] dX9_findOdds_35 (by decide) rfl ?_
        have LP104 : ∀ (t : Nat) (E106 : Nat → va_E) (y105 : Int32), JY l Z kn G ad n ic md (upB bd 41 (0, 2 + 5188 * y12.toInt + 3 * (y105.toInt - 1))) PR E0 E106 → ((1 : Int) ≤ y105.toInt ∧ y105.toInt ≤ 801) → 802 - y105.toInt < (t : Int) → V X G A 8 (QV X G A (n) ad (fun E' => JY l Z kn G ad n ic md bd PR E0 E')) n ad 0 0 E106 37 [(0, .ref (ad 68)), (1, .int x), (2, .int y), (3, .int y12), (4, .int y105)] [] := by
          intro t110
          induction t110 with
          | zero => intro E106 y105 hJ107 hy105 hm109; exfalso; omega
          | succ t110 ih108 =>
            intro E106 y105 hJ107 hy105 hm109
            refine v_iload C 4 dX9_findOdds_37 rfl ?_
            refine v_aload_n C 0 dX9_findOdds_39 rfl rfl ?_
            obtain ⟨im111, hM111, hb111⟩ := hJ107.1.1
            have hq111 := hM111.b
            refine v_getr C 68 dX9_findOdds_40 fX9_67 (by omega) hM111.2.2.1 rfl rfl ?_
            refine v_iload_n C 3 dX9_findOdds_43 rfl rfl ?_
            obtain ⟨f113, hE113, hb113⟩ := hJ107.1.2.1.getA (b := 82) (by omega) rfl
            refine v_ald (v := f113 (y12.toInt).toNat) C 82 dX9_findOdds_44 (by omega) hE113 (ti_in (rfl : Int32.toInt y12 = _) (by omega) (by omega)) (by rw [ti_cl (rfl : Int32.toInt y12 = _)]) ?_
            refine v_top (fun x114 ex114 => ?_)
            have hx114 : (0 : Int) ≤ x114.toInt ∧ x114.toInt ≤ 800 := by rw [ex114]; exact hb113 _
            refine b_icmp_gt C 97 dX9_findOdds_45 (by decide) (rfl : Int32.toInt y105 = _) (rfl : Int32.toInt x114 = _) (fun c115 => ?_) (fun c115 => ?_)
            · refine v_iload_n C 1 dX9_findOdds_97 rfl rfl ?_
              refine v_sipush (v := 1440) C dX9_findOdds_98 (by decide) ?_
              refine v_idiv C dX9_findOdds_101 (by decide) ?_
              refine v_top (fun x116 ex116 => ?_)
              have hx116 : x116.toInt = (x.toInt / 1440) := by rw [ex116]; exact ti_div (rfl : Int32.toInt x = _) (show (1440 : Int32).toInt = 1440 by decide) (by omega) (by omega)
              refine v_iconst (v := 2) C dX9_findOdds_102 (by decide) ?_
              refine v_isub C dX9_findOdds_103 ?_
              refine v_top (fun x117 ex117 => ?_)
              have hx117 : x117.toInt = ((x.toInt / 1440) - 2) := by rw [ex117]; exact ti_sub hx116 (show (2 : Int32).toInt = 2 by decide) (by omega) (by omega)
              refine v_istore (lv' := [(0, .ref (ad 68)), (1, .int x), (2, .int y), (3, .int y12), (4, .int x117)]) C [1, 2, 3, 4, 0] dX9_findOdds_104 (by decide) rfl ?_
              refine v_iload_n C 2 dX9_findOdds_106 rfl rfl ?_
              refine v_sipush (v := 1440) C dX9_findOdds_107 (by decide) ?_
              refine v_idiv C dX9_findOdds_110 (by decide) ?_
              refine v_top (fun x118 ex118 => ?_)
              have hx118 : x118.toInt = (y.toInt / 1440) := by rw [ex118]; exact ti_div (rfl : Int32.toInt y = _) (show (1440 : Int32).toInt = 1440 by decide) (by omega) (by omega)
              refine v_iconst (v := 2) C dX9_findOdds_111 (by decide) ?_
              refine v_iadd C dX9_findOdds_112 ?_
              refine v_top (fun x119 ex119 => ?_)
              have hx119 : x119.toInt = ((y.toInt / 1440) + 2) := by rw [ex119]; exact ti_add hx118 (show (2 : Int32).toInt = 2 by decide) (by omega) (by omega)
              refine v_istore (lv' := [(0, .ref (ad 68)), (1, .int x), (2, .int y), (3, .int y12), (4, .int x117), (5, .int x119)]) C [1, 2, 3, 4, 5, 0] dX9_findOdds_113 (by decide) rfl ?_
              refine v_iload C 4 dX9_findOdds_115 rfl ?_
              refine b_if_ge C 124 dX9_findOdds_117 (by decide) hx117 (fun c120 => ?_) (fun c120 => ?_)
              · refine v_iload C 4 dX9_findOdds_124 rfl ?_
                refine v_istore (lv' := [(0, .ref (ad 68)), (1, .int x), (2, .int y), (3, .int y12), (4, .int x117), (5, .int x119), (6, .int x117)]) C [1, 2, 3, 4, 5, 6, 0] dX9_findOdds_126 (by decide) rfl ?_
                have LP121 : ∀ (t : Nat) (E125 : Nat → va_E) (y122 : Int32), JY l Z kn G ad n ic md (upB bd 41 (0, 2402 + 5188 * y12.toInt + 2 * (y122.toInt - (x.toInt / 1440 - 2)))) PR E0 E125 → ((0 : Int) ≤ y122.toInt ∧ y122.toInt ≤ 41669) → (x.toInt / 1440 - 2 ≤ y122.toInt) → (y122.toInt ≤ y.toInt / 1440 + 3) → 41670 - y122.toInt < (t : Int) → V X G A 8 (QV X G A (n) ad (fun E' => JY l Z kn G ad n ic md bd PR E0 E')) n ad 0 0 E125 128 [(0, .ref (ad 68)), (1, .int x), (2, .int y), (3, .int y12), (5, .int x119), (6, .int y122)] [] := by
                  intro t129
                  induction t129 with
                  | zero => intro E125 y122 hJ126 hy122 hq123 hq124 hm128; exfalso; omega
                  | succ t129 ih127 =>
                    intro E125 y122 hJ126 hy122 hq123 hq124 hm128
                    refine v_iload C 5 dX9_findOdds_128 rfl ?_
                    refine v_iload C 4 dX9_findOdds_130 rfl ?_
                    refine b_icmp_gt C 198 dX9_findOdds_132 (by decide) (rfl : Int32.toInt y122 = _) hx119 (fun c130 => ?_) (fun c130 => ?_)
                    · obtain ⟨x131, ex131⟩ : ∃ y : Int32, y = y12 + 1 := ⟨_, rfl⟩
                      have hx131 : x131.toInt = (y12.toInt + 1) := by rw [ex131]; exact ti_add (rfl : Int32.toInt y12 = _) (show (1 : Int32).toInt = 1 by decide) (by omega) (by omega)
                      refine v_iinc (v := x131) (lv' := [(0, .ref (ad 68)), (1, .int x), (2, .int y), (3, .int x131), (5, .int x119), (6, .int y122)]) C 3 [1, 2, 3, 0, 4, 5] dX9_findOdds_198 rfl (ex131.symm) (by decide) rfl ?_
                      refine v_goto C 21 dX9_findOdds_201 (by decide) ?_
                      refine v_sub (lv' := [(0, .ref (ad 68)), (1, .int x), (2, .int y), (3, .int x131)]) [0, 1, 2, 3] rfl ?_
                      exact ih15 _ x131 (hJ126.toB (by decide) (by have := hx131; omega) (by have := hx131; omega)) (by have := hx131; omega) (by have := hx131; omega)
                    · refine v_aload_n C 0 dX9_findOdds_135 rfl rfl ?_
                      refine v_iload C 5 dX9_findOdds_136 rfl ?_
                      obtain ⟨im136, hM136, hb136⟩ := hJ126.1.1
                      have hq136 := hM136.b
                      refine v_cVi C dX9_findOdds_138 lX9_141 mX9_isDay 68 (by omega) hM136.2.2.1 (by decide) rfl (d_isDay l G _ ad _ hn hM136 y122) ⟨by decide, by decide⟩ rfl (Nat.le_of_ble_eq_true rfl) ⟨Nat.zero_le _, Nat.zero_le _⟩ (fun r132 E133 hq134 => ?_)
                      obtain ⟨hq134, hq134m⟩ := hq134
                      have hJ135 := hJ126.mr hb136 (by unfold PR; omega) (by unfold PR; omega) hq134m
                      have hcyr132 := cal_y hM136.2.1
                      rcases hq134 with ⟨rfl, hq134⟩ | ⟨rfl, hq134⟩
                      · refine b_if_eq C 198 dX9_findOdds_141 (by decide) (show (1 : Int32).toInt = 1 by decide) (fun c137 => absurd c137 (by decide)) (fun c137 => ?_)
                        refine v_aload_n C 0 dX9_findOdds_144 rfl rfl ?_
                        refine v_iload_n C 3 dX9_findOdds_145 rfl rfl ?_
                        refine v_sipush (v := 1440) C dX9_findOdds_146 (by decide) ?_
                        refine v_iload C 5 dX9_findOdds_149 rfl ?_
                        refine v_imul C dX9_findOdds_151 ?_
                        refine v_top (fun x138 ex138 => ?_)
                        have hx138 : x138.toInt = (1440 * y122.toInt) := by rw [ex138]; exact ti_mul (show (1440 : Int32).toInt = 1440 by decide) (rfl : Int32.toInt y122 = _) (by omega) (by omega)
                        refine v_sipush (v := 1440) C dX9_findOdds_152 (by decide) ?_
                        refine v_iload C 5 dX9_findOdds_155 rfl ?_
                        refine v_imul C dX9_findOdds_157 ?_
                        refine v_top (fun x139 ex139 => ?_)
                        have hx139 : x139.toInt = (1440 * y122.toInt) := by rw [ex139]; exact ti_mul (show (1440 : Int32).toInt = 1440 by decide) (rfl : Int32.toInt y122 = _) (by omega) (by omega)
                        refine v_sipush (v := 1440) C dX9_findOdds_158 (by decide) ?_
                        refine v_iadd C dX9_findOdds_161 ?_
                        refine v_top (fun x140 ex140 => ?_)
                        have hx140 : x140.toInt = ((1440 * y122.toInt) + 1440) := by rw [ex140]; exact ti_add hx139 (show (1440 : Int32).toInt = 1440 by decide) (by omega) (by omega)
                        refine v_iconst (v := 1) C dX9_findOdds_162 (by decide) ?_
                        refine v_isub C dX9_findOdds_163 ?_
                        refine v_top (fun x141 ex141 => ?_)
                        have hx141 : x141.toInt = (((1440 * y122.toInt) + 1440) - 1) := by rw [ex141]; exact ti_sub hx140 (show (1 : Int32).toInt = 1 by decide) (by omega) (by omega)
                        obtain ⟨im146, hM146, hb146⟩ := hJ135.1.1
                        have hq146 := hM146.b
                        refine v_cVi C dX9_findOdds_164 lX9_236 mX9_firstFrom 68 (by omega) hM146.2.2.1 (by decide) rfl (ty_X9_firstFrom l G ad hJ135 y12 (show (0 : Int) ≤ Int32.toInt y12 ∧ Int32.toInt y12 ≤ 4 by omega) x138 x141) ⟨by decide, by decide⟩ rfl (Nat.le_of_ble_eq_true rfl) ⟨Nat.zero_le _, Nat.zero_le _⟩ (fun r142 E143 hp144 => ?_)
                        obtain ⟨hp144, hJ145⟩ := hp144
                        refine v_istore (lv' := [(0, .ref (ad 68)), (1, .int x), (2, .int y), (3, .int y12), (5, .int x119), (6, .int y122), (7, .int r142)]) C [1, 2, 3, 4, 5, 6, 0] dX9_findOdds_167 (by decide) rfl ?_
                        refine v_iload C 6 dX9_findOdds_169 rfl ?_
                        refine b_if_lt C 192 dX9_findOdds_171 (by decide) (rfl : Int32.toInt r142 = _) (fun c147 => ?_) (fun c147 => ?_)
                        · obtain ⟨x148, ex148⟩ : ∃ y : Int32, y = y122 + 1 := ⟨_, rfl⟩
                          have hx148 : x148.toInt = (y122.toInt + 1) := by rw [ex148]; exact ti_add (rfl : Int32.toInt y122 = _) (show (1 : Int32).toInt = 1 by decide) (by omega) (by omega)
                          refine v_iinc (v := x148) (lv' := [(0, .ref (ad 68)), (1, .int x), (2, .int y), (3, .int y12), (5, .int x119), (6, .int x148), (7, .int r142)]) C 5 [1, 2, 3, 4, 5, 0, 6] dX9_findOdds_192 rfl (ex148.symm) (by decide) rfl ?_
                          refine v_goto C 128 dX9_findOdds_195 (by decide) ?_
                          refine v_sub (lv' := [(0, .ref (ad 68)), (1, .int x), (2, .int y), (3, .int y12), (5, .int x119), (6, .int x148)]) [0, 1, 2, 3, 4, 5] rfl ?_
                          exact ih127 _ x148 (hJ145.toB (by decide) (by have := hx148; omega) (by have := hx148; omega)) (by have := hx148; omega) (by have := hx148; omega) (by have := hx148; omega) (by have := hx148; omega)
                        · refine v_aload_n C 0 dX9_findOdds_174 rfl rfl ?_
                          refine v_iload C 6 dX9_findOdds_175 rfl ?_
                          refine v_iload_n C 1 dX9_findOdds_177 rfl rfl ?_
                          refine v_iload_n C 2 dX9_findOdds_178 rfl rfl ?_
                          obtain ⟨im151, hM151, hb151⟩ := hJ145.1.1
                          have hq151 := hM151.b
                          refine v_cVv C dX9_findOdds_179 lX9_268 mX9_addOdd 68 (by omega) hM151.2.2.1 (by decide) rfl (ty_X9_addOdd l G ad (show JY l Z kn G ad n ic md (upB bd 41 (0, 2402 + 5188 * y12.toInt + 2 * (y122.toInt - (x.toInt / 1440 - 2)))) PR E0 E143 from hJ145.toB (by decide) (by omega) (by omega)) (show (0 : Int) ≤ 2402 + 5188 * y12.toInt + 2 * (y122.toInt - (x.toInt / 1440 - 2)) ∧ 2402 + 5188 * y12.toInt + 2 * (y122.toInt - (x.toInt / 1440 - 2)) ≤ 39999 by omega) r142 x y) ⟨by decide, by decide⟩ rfl (Nat.le_of_ble_eq_true rfl) ⟨Nat.zero_le _, Nat.zero_le _⟩ (fun E149 hJ150 => ?_)
                          refine v_aload_n C 0 dX9_findOdds_182 rfl rfl ?_
                          refine v_iload C 6 dX9_findOdds_183 rfl ?_
                          refine v_iconst (v := 1) C dX9_findOdds_185 (by decide) ?_
                          refine v_isub C dX9_findOdds_186 ?_
                          have := ti_any r142
                          refine v_top (fun x152 ex152 => ?_)
                          have hx152 : x152.toInt = (r142.toInt - 1) := by rw [ex152]; exact ti_sub (rfl : Int32.toInt r142 = _) (show (1 : Int32).toInt = 1 by decide) (by omega) (by omega)
                          refine v_iload_n C 1 dX9_findOdds_187 rfl rfl ?_
                          refine v_iload_n C 2 dX9_findOdds_188 rfl rfl ?_
                          obtain ⟨im155, hM155, hb155⟩ := hJ150.1.1
                          have hq155 := hM155.b
                          refine v_cVv C dX9_findOdds_189 lX9_268 mX9_addOdd 68 (by omega) hM155.2.2.1 (by decide) rfl (ty_X9_addOdd l G ad (show JY l Z kn G ad n ic md (upB bd 41 (0, 2402 + 5188 * y12.toInt + 2 * (y122.toInt - (x.toInt / 1440 - 2)) + 1)) PR E0 E149 from hJ150.toB (by decide) (by omega) (by omega)) (show (0 : Int) ≤ 2402 + 5188 * y12.toInt + 2 * (y122.toInt - (x.toInt / 1440 - 2)) + 1 ∧ 2402 + 5188 * y12.toInt + 2 * (y122.toInt - (x.toInt / 1440 - 2)) + 1 ≤ 39999 by omega) x152 x y) ⟨by decide, by decide⟩ rfl (Nat.le_of_ble_eq_true rfl) ⟨Nat.zero_le _, Nat.zero_le _⟩ (fun E153 hJ154 => ?_)
                          obtain ⟨x156, ex156⟩ : ∃ y : Int32, y = y122 + 1 := ⟨_, rfl⟩
                          have hx156 : x156.toInt = (y122.toInt + 1) := by rw [ex156]; exact ti_add (rfl : Int32.toInt y122 = _) (show (1 : Int32).toInt = 1 by decide) (by omega) (by omega)
                          refine v_iinc (v := x156) (lv' := [(0, .ref (ad 68)), (1, .int x), (2, .int y), (3, .int y12), (5, .int x119), (6, .int x156), (7, .int r142)]) C 5 [1, 2, 3, 4, 5, 0, 6] dX9_findOdds_192 rfl (ex156.symm) (by decide) rfl ?_
                          refine v_goto C 128 dX9_findOdds_195 (by decide) ?_
                          refine v_sub (lv' := [(0, .ref (ad 68)), (1, .int x), (2, .int y), (3, .int y12), (5, .int x119), (6, .int x156)]) [0, 1, 2, 3, 4, 5] rfl ?_
                          exact ih127 _ x156 (hJ154.toB (by decide) (by have := hx156; omega) (by have := hx156; omega)) (by have := hx156; omega) (by have := hx156; omega) (by have := hx156; omega) (by have := hx156; omega)
                      · refine b_if_eq C 198 dX9_findOdds_141 (by decide) (show (0 : Int32).toInt = 0 by decide) (fun c157 => ?_) (fun c157 => absurd c157 (by decide))
                        obtain ⟨x158, ex158⟩ : ∃ y : Int32, y = y12 + 1 := ⟨_, rfl⟩
                        have hx158 : x158.toInt = (y12.toInt + 1) := by rw [ex158]; exact ti_add (rfl : Int32.toInt y12 = _) (show (1 : Int32).toInt = 1 by decide) (by omega) (by omega)
                        refine v_iinc (v := x158) (lv' := [(0, .ref (ad 68)), (1, .int x), (2, .int y), (3, .int x158), (5, .int x119), (6, .int y122)]) C 3 [1, 2, 3, 0, 4, 5] dX9_findOdds_198 rfl (ex158.symm) (by decide) rfl ?_
                        refine v_goto C 21 dX9_findOdds_201 (by decide) ?_
                        refine v_sub (lv' := [(0, .ref (ad 68)), (1, .int x), (2, .int y), (3, .int x158)]) [0, 1, 2, 3] rfl ?_
                        exact ih15 _ x158 (hJ135.toB (by decide) (by have := hx158; omega) (by have := hx158; omega)) (by have := hx158; omega) (by have := hx158; omega)
                refine v_sub (lv' := [(0, .ref (ad 68)), (1, .int x), (2, .int y), (3, .int y12), (5, .int x119), (6, .int x117)]) [0, 1, 2, 3, 5, 6] rfl ?_
                exact LP121 100000 _ x117 (hJ107.toB (by decide) (by have := hx117; omega) (by have := hx117; omega)) (by have := hx117; omega) (by have := hx117; omega) (by have := hx117; omega) (by have := hx117; omega)
              · refine v_iconst (v := 0) C dX9_findOdds_120 (by decide) ?_
                refine v_goto C 126 dX9_findOdds_121 (by decide) ?_
                refine v_istore (lv' := [(0, .ref (ad 68)), (1, .int x), (2, .int y), (3, .int y12), (4, .int x117), (5, .int x119), (6, .int 0)]) C [1, 2, 3, 4, 5, 6, 0] dX9_findOdds_126 (by decide) rfl ?_
                have LP159 : ∀ (t : Nat) (E163 : Nat → va_E) (y160 : Int32), JY l Z kn G ad n ic md (upB bd 41 (0, 2402 + 5188 * y12.toInt + 2 * (y160.toInt - (x.toInt / 1440 - 2)))) PR E0 E163 → ((0 : Int) ≤ y160.toInt ∧ y160.toInt ≤ 41669) → (x.toInt / 1440 - 2 ≤ y160.toInt) → (y160.toInt ≤ y.toInt / 1440 + 3) → 41670 - y160.toInt < (t : Int) → V X G A 8 (QV X G A (n) ad (fun E' => JY l Z kn G ad n ic md bd PR E0 E')) n ad 0 0 E163 128 [(0, .ref (ad 68)), (1, .int x), (2, .int y), (3, .int y12), (5, .int x119), (6, .int y160)] [] := by
                  intro t167
                  induction t167 with
                  | zero => intro E163 y160 hJ164 hy160 hq161 hq162 hm166; exfalso; omega
                  | succ t167 ih165 =>
                    intro E163 y160 hJ164 hy160 hq161 hq162 hm166
                    refine v_iload C 5 dX9_findOdds_128 rfl ?_
                    refine v_iload C 4 dX9_findOdds_130 rfl ?_
                    refine b_icmp_gt C 198 dX9_findOdds_132 (by decide) (rfl : Int32.toInt y160 = _) hx119 (fun c168 => ?_) (fun c168 => ?_)
                    · obtain ⟨x169, ex169⟩ : ∃ y : Int32, y = y12 + 1 := ⟨_, rfl⟩
                      have hx169 : x169.toInt = (y12.toInt + 1) := by rw [ex169]; exact ti_add (rfl : Int32.toInt y12 = _) (show (1 : Int32).toInt = 1 by decide) (by omega) (by omega)
                      refine v_iinc (v := x169) (lv' := [(0, .ref (ad 68)), (1, .int x), (2, .int y), (3, .int x169), (5, .int x119), (6, .int y160)]) C 3 [1, 2, 3, 0, 4, 5] dX9_findOdds_198 rfl (ex169.symm) (by decide) rfl ?_
                      refine v_goto C 21 dX9_findOdds_201 (by decide) ?_
                      refine v_sub (lv' := [(0, .ref (ad 68)), (1, .int x), (2, .int y), (3, .int x169)]) [0, 1, 2, 3] rfl ?_
                      exact ih15 _ x169 (hJ164.toB (by decide) (by have := hx169; omega) (by have := hx169; omega)) (by have := hx169; omega) (by have := hx169; omega)
                    · refine v_aload_n C 0 dX9_findOdds_135 rfl rfl ?_
                      refine v_iload C 5 dX9_findOdds_136 rfl ?_
                      obtain ⟨im174, hM174, hb174⟩ := hJ164.1.1
                      have hq174 := hM174.b
                      refine v_cVi C dX9_findOdds_138 lX9_141 mX9_isDay 68 (by omega) hM174.2.2.1 (by decide) rfl (d_isDay l G _ ad _ hn hM174 y160) ⟨by decide, by decide⟩ rfl (Nat.le_of_ble_eq_true rfl) ⟨Nat.zero_le _, Nat.zero_le _⟩ (fun r170 E171 hq172 => ?_)
                      obtain ⟨hq172, hq172m⟩ := hq172
                      have hJ173 := hJ164.mr hb174 (by unfold PR; omega) (by unfold PR; omega) hq172m
                      have hcyr170 := cal_y hM174.2.1
                      rcases hq172 with ⟨rfl, hq172⟩ | ⟨rfl, hq172⟩
                      · refine b_if_eq C 198 dX9_findOdds_141 (by decide) (show (1 : Int32).toInt = 1 by decide) (fun c175 => absurd c175 (by decide)) (fun c175 => ?_)
                        refine v_aload_n C 0 dX9_findOdds_144 rfl rfl ?_
                        refine v_iload_n C 3 dX9_findOdds_145 rfl rfl ?_
                        refine v_sipush (v := 1440) C dX9_findOdds_146 (by decide) ?_
                        refine v_iload C 5 dX9_findOdds_149 rfl ?_
                        refine v_imul C dX9_findOdds_151 ?_
                        refine v_top (fun x176 ex176 => ?_)
                        have hx176 : x176.toInt = (1440 * y160.toInt) := by rw [ex176]; exact ti_mul (show (1440 : Int32).toInt = 1440 by decide) (rfl : Int32.toInt y160 = _) (by omega) (by omega)
                        refine v_sipush (v := 1440) C dX9_findOdds_152 (by decide) ?_
                        refine v_iload C 5 dX9_findOdds_155 rfl ?_
                        refine v_imul C dX9_findOdds_157 ?_
                        refine v_top (fun x177 ex177 => ?_)
                        have hx177 : x177.toInt = (1440 * y160.toInt) := by rw [ex177]; exact ti_mul (show (1440 : Int32).toInt = 1440 by decide) (rfl : Int32.toInt y160 = _) (by omega) (by omega)
                        refine v_sipush (v := 1440) C dX9_findOdds_158 (by decide) ?_
                        refine v_iadd C dX9_findOdds_161 ?_
                        refine v_top (fun x178 ex178 => ?_)
                        have hx178 : x178.toInt = ((1440 * y160.toInt) + 1440) := by rw [ex178]; exact ti_add hx177 (show (1440 : Int32).toInt = 1440 by decide) (by omega) (by omega)
                        refine v_iconst (v := 1) C dX9_findOdds_162 (by decide) ?_
                        refine v_isub C dX9_findOdds_163 ?_
                        refine v_top (fun x179 ex179 => ?_)
                        have hx179 : x179.toInt = (((1440 * y160.toInt) + 1440) - 1) := by rw [ex179]; exact ti_sub hx178 (show (1 : Int32).toInt = 1 by decide) (by omega) (by omega)
                        obtain ⟨im184, hM184, hb184⟩ := hJ173.1.1
                        have hq184 := hM184.b
                        refine v_cVi C dX9_findOdds_164 lX9_236 mX9_firstFrom 68 (by omega) hM184.2.2.1 (by decide) rfl (ty_X9_firstFrom l G ad hJ173 y12 (show (0 : Int) ≤ Int32.toInt y12 ∧ Int32.toInt y12 ≤ 4 by omega) x176 x179) ⟨by decide, by decide⟩ rfl (Nat.le_of_ble_eq_true rfl) ⟨Nat.zero_le _, Nat.zero_le _⟩ (fun r180 E181 hp182 => ?_)
                        obtain ⟨hp182, hJ183⟩ := hp182
                        refine v_istore (lv' := [(0, .ref (ad 68)), (1, .int x), (2, .int y), (3, .int y12), (5, .int x119), (6, .int y160), (7, .int r180)]) C [1, 2, 3, 4, 5, 6, 0] dX9_findOdds_167 (by decide) rfl ?_
                        refine v_iload C 6 dX9_findOdds_169 rfl ?_
                        refine b_if_lt C 192 dX9_findOdds_171 (by decide) (rfl : Int32.toInt r180 = _) (fun c185 => ?_) (fun c185 => ?_)
                        · obtain ⟨x186, ex186⟩ : ∃ y : Int32, y = y160 + 1 := ⟨_, rfl⟩
                          have hx186 : x186.toInt = (y160.toInt + 1) := by rw [ex186]; exact ti_add (rfl : Int32.toInt y160 = _) (show (1 : Int32).toInt = 1 by decide) (by omega) (by omega)
                          refine v_iinc (v := x186) (lv' := [(0, .ref (ad 68)), (1, .int x), (2, .int y), (3, .int y12), (5, .int x119), (6, .int x186), (7, .int r180)]) C 5 [1, 2, 3, 4, 5, 0, 6] dX9_findOdds_192 rfl (ex186.symm) (by decide) rfl ?_
                          refine v_goto C 128 dX9_findOdds_195 (by decide) ?_
                          refine v_sub (lv' := [(0, .ref (ad 68)), (1, .int x), (2, .int y), (3, .int y12), (5, .int x119), (6, .int x186)]) [0, 1, 2, 3, 4, 5] rfl ?_
                          exact ih165 _ x186 (hJ183.toB (by decide) (by have := hx186; omega) (by have := hx186; omega)) (by have := hx186; omega) (by have := hx186; omega) (by have := hx186; omega) (by have := hx186; omega)
                        · refine v_aload_n C 0 dX9_findOdds_174 rfl rfl ?_
                          refine v_iload C 6 dX9_findOdds_175 rfl ?_
                          refine v_iload_n C 1 dX9_findOdds_177 rfl rfl ?_
                          refine v_iload_n C 2 dX9_findOdds_178 rfl rfl ?_
                          obtain ⟨im189, hM189, hb189⟩ := hJ183.1.1
                          have hq189 := hM189.b
                          refine v_cVv C dX9_findOdds_179 lX9_268 mX9_addOdd 68 (by omega) hM189.2.2.1 (by decide) rfl (ty_X9_addOdd l G ad (show JY l Z kn G ad n ic md (upB bd 41 (0, 2402 + 5188 * y12.toInt + 2 * (y160.toInt - (x.toInt / 1440 - 2)))) PR E0 E181 from hJ183.toB (by decide) (by omega) (by omega)) (show (0 : Int) ≤ 2402 + 5188 * y12.toInt + 2 * (y160.toInt - (x.toInt / 1440 - 2)) ∧ 2402 + 5188 * y12.toInt + 2 * (y160.toInt - (x.toInt / 1440 - 2)) ≤ 39999 by omega) r180 x y) ⟨by decide, by decide⟩ rfl (Nat.le_of_ble_eq_true rfl) ⟨Nat.zero_le _, Nat.zero_le _⟩ (fun E187 hJ188 => ?_)
                          refine v_aload_n C 0 dX9_findOdds_182 rfl rfl ?_
                          refine v_iload C 6 dX9_findOdds_183 rfl ?_
                          refine v_iconst (v := 1) C dX9_findOdds_185 (by decide) ?_
                          refine v_isub C dX9_findOdds_186 ?_
                          have := ti_any r180
                          refine v_top (fun x190 ex190 => ?_)
                          have hx190 : x190.toInt = (r180.toInt - 1) := by rw [ex190]; exact ti_sub (rfl : Int32.toInt r180 = _) (show (1 : Int32).toInt = 1 by decide) (by omega) (by omega)
                          refine v_iload_n C 1 dX9_findOdds_187 rfl rfl ?_
                          refine v_iload_n C 2 dX9_findOdds_188 rfl rfl ?_
                          obtain ⟨im193, hM193, hb193⟩ := hJ188.1.1
                          have hq193 := hM193.b
                          refine v_cVv C dX9_findOdds_189 lX9_268 mX9_addOdd 68 (by omega) hM193.2.2.1 (by decide) rfl (ty_X9_addOdd l G ad (show JY l Z kn G ad n ic md (upB bd 41 (0, 2402 + 5188 * y12.toInt + 2 * (y160.toInt - (x.toInt / 1440 - 2)) + 1)) PR E0 E187 from hJ188.toB (by decide) (by omega) (by omega)) (show (0 : Int) ≤ 2402 + 5188 * y12.toInt + 2 * (y160.toInt - (x.toInt / 1440 - 2)) + 1 ∧ 2402 + 5188 * y12.toInt + 2 * (y160.toInt - (x.toInt / 1440 - 2)) + 1 ≤ 39999 by omega) x190 x y) ⟨by decide, by decide⟩ rfl (Nat.le_of_ble_eq_true rfl) ⟨Nat.zero_le _, Nat.zero_le _⟩ (fun E191 hJ192 => ?_)
                          obtain ⟨x194, ex194⟩ : ∃ y : Int32, y = y160 + 1 := ⟨_, rfl⟩
                          have hx194 : x194.toInt = (y160.toInt + 1) := by rw [ex194]; exact ti_add (rfl : Int32.toInt y160 = _) (show (1 : Int32).toInt = 1 by decide) (by omega) (by omega)
                          refine v_iinc (v := x194) (lv' := [(0, .ref (ad 68)), (1, .int x), (2, .int y), (3, .int y12), (5, .int x119), (6, .int x194), (7, .int r180)]) C 5 [1, 2, 3, 4, 5, 0, 6] dX9_findOdds_192 rfl (ex194.symm) (by decide) rfl ?_
                          refine v_goto C 128 dX9_findOdds_195 (by decide) ?_
                          refine v_sub (lv' := [(0, .ref (ad 68)), (1, .int x), (2, .int y), (3, .int y12), (5, .int x119), (6, .int x194)]) [0, 1, 2, 3, 4, 5] rfl ?_
                          exact ih165 _ x194 (hJ192.toB (by decide) (by have := hx194; omega) (by have := hx194; omega)) (by have := hx194; omega) (by have := hx194; omega) (by have := hx194; omega) (by have := hx194; omega)
                      · refine b_if_eq C 198 dX9_findOdds_141 (by decide) (show (0 : Int32).toInt = 0 by decide) (fun c195 => ?_) (fun c195 => absurd c195 (by decide))
                        obtain ⟨x196, ex196⟩ : ∃ y : Int32, y = y12 + 1 := ⟨_, rfl⟩
                        have hx196 : x196.toInt = (y12.toInt + 1) := by rw [ex196]; exact ti_add (rfl : Int32.toInt y12 = _) (show (1 : Int32).toInt = 1 by decide) (by omega) (by omega)
                        refine v_iinc (v := x196) (lv' := [(0, .ref (ad 68)), (1, .int x), (2, .int y), (3, .int x196), (5, .int x119), (6, .int y160)]) C 3 [1, 2, 3, 0, 4, 5] dX9_findOdds_198 rfl (ex196.symm) (by decide) rfl ?_
                        refine v_goto C 21 dX9_findOdds_201 (by decide) ?_
                        refine v_sub (lv' := [(0, .ref (ad 68)), (1, .int x), (2, .int y), (3, .int x196)]) [0, 1, 2, 3] rfl ?_
                        exact ih15 _ x196 (hJ173.toB (by decide) (by have := hx196; omega) (by have := hx196; omega)) (by have := hx196; omega) (by have := hx196; omega)
                refine v_sub (lv' := [(0, .ref (ad 68)), (1, .int x), (2, .int y), (3, .int y12), (5, .int x119), (6, .int 0)]) [0, 1, 2, 3, 5, 6] rfl ?_
                exact LP159 100000 _ 0 (hJ107.toB (by decide) (by have := (show (0 : Int32).toInt = 0 by decide); omega) (by have := (show (0 : Int32).toInt = 0 by decide); omega)) (by have := (show (0 : Int32).toInt = 0 by decide); omega) (by have := (show (0 : Int32).toInt = 0 by decide); omega) (by have := (show (0 : Int32).toInt = 0 by decide); omega) (by have := (show (0 : Int32).toInt = 0 by decide); omega)
            · refine v_aload_n C 0 dX9_findOdds_48 rfl rfl ?_
              refine v_getr C 68 dX9_findOdds_49 fX9_61 (by omega) hM111.2.2.1 rfl rfl ?_
              refine v_sipush (v := 801) C dX9_findOdds_52 (by decide) ?_
              refine v_iload_n C 3 dX9_findOdds_55 rfl rfl ?_
              refine v_imul C dX9_findOdds_56 ?_
              refine v_top (fun x197 ex197 => ?_)
              have hx197 : x197.toInt = (801 * y12.toInt) := by rw [ex197]; exact ti_mul (show (801 : Int32).toInt = 801 by decide) (rfl : Int32.toInt y12 = _) (by omega) (by omega)
              refine v_iload C 4 dX9_findOdds_57 rfl ?_
              refine v_iadd C dX9_findOdds_59 ?_
              refine v_top (fun x198 ex198 => ?_)
              have hx198 : x198.toInt = ((801 * y12.toInt) + y105.toInt) := by rw [ex198]; exact ti_add hx197 (rfl : Int32.toInt y105 = _) (by omega) (by omega)
              obtain ⟨f200, hE200, hb200⟩ := hJ107.1.2.1.getA (b := 80) (by omega) rfl
              refine v_ald (v := f200 (((801 * y12.toInt) + y105.toInt)).toNat) C 80 dX9_findOdds_60 (by omega) hE200 (ti_in hx198 (by omega) (by omega)) (by rw [ti_cl hx198]) ?_
              refine v_top (fun x201 _ => ?_)
              refine v_istore (lv' := [(0, .ref (ad 68)), (1, .int x), (2, .int y), (3, .int y12), (4, .int y105), (5, .int x201)]) C [1, 2, 3, 4, 5, 0] dX9_findOdds_61 (by decide) rfl ?_
              refine v_aload_n C 0 dX9_findOdds_63 rfl rfl ?_
              refine v_iload C 5 dX9_findOdds_64 rfl ?_
              refine v_iconst (v := 1) C dX9_findOdds_66 (by decide) ?_
              refine v_isub C dX9_findOdds_67 ?_
              refine v_top (fun x202 _ => ?_)
              refine v_iload_n C 1 dX9_findOdds_68 rfl rfl ?_
              refine v_iload_n C 2 dX9_findOdds_69 rfl rfl ?_
              refine v_cVv C dX9_findOdds_70 lX9_268 mX9_addOdd 68 (by omega) hM111.2.2.1 (by decide) rfl (ty_X9_addOdd l G ad (show JY l Z kn G ad n ic md (upB bd 41 (0, 2 + 5188 * y12.toInt + 3 * (y105.toInt - 1))) PR E0 E106 from hJ107.toB (by decide) (by omega) (by omega)) (show (0 : Int) ≤ 2 + 5188 * y12.toInt + 3 * (y105.toInt - 1) ∧ 2 + 5188 * y12.toInt + 3 * (y105.toInt - 1) ≤ 39999 by omega) x202 x y) ⟨by decide, by decide⟩ rfl (Nat.le_of_ble_eq_true rfl) ⟨Nat.zero_le _, Nat.zero_le _⟩ (fun E203 hJ204 => ?_)
              refine v_aload_n C 0 dX9_findOdds_73 rfl rfl ?_
              refine v_iload C 5 dX9_findOdds_74 rfl ?_
              refine v_iload_n C 1 dX9_findOdds_76 rfl rfl ?_
              refine v_iload_n C 2 dX9_findOdds_77 rfl rfl ?_
              obtain ⟨im207, hM207, hb207⟩ := hJ204.1.1
              have hq207 := hM207.b
              refine v_cVv C dX9_findOdds_78 lX9_268 mX9_addOdd 68 (by omega) hM207.2.2.1 (by decide) rfl (ty_X9_addOdd l G ad (show JY l Z kn G ad n ic md (upB bd 41 (0, 2 + 5188 * y12.toInt + 3 * (y105.toInt - 1) + 1)) PR E0 E203 from hJ204.toB (by decide) (by omega) (by omega)) (show (0 : Int) ≤ 2 + 5188 * y12.toInt + 3 * (y105.toInt - 1) + 1 ∧ 2 + 5188 * y12.toInt + 3 * (y105.toInt - 1) + 1 ≤ 39999 by omega) x201 x y) ⟨by decide, by decide⟩ rfl (Nat.le_of_ble_eq_true rfl) ⟨Nat.zero_le _, Nat.zero_le _⟩ (fun E205 hJ206 => ?_)
              refine v_aload_n C 0 dX9_findOdds_81 rfl rfl ?_
              refine v_iload C 5 dX9_findOdds_82 rfl ?_
              refine v_iconst (v := 1) C dX9_findOdds_84 (by decide) ?_
              refine v_iadd C dX9_findOdds_85 ?_
              refine v_top (fun x208 _ => ?_)
              refine v_iload_n C 1 dX9_findOdds_86 rfl rfl ?_
              refine v_iload_n C 2 dX9_findOdds_87 rfl rfl ?_
              obtain ⟨im211, hM211, hb211⟩ := hJ206.1.1
              have hq211 := hM211.b
              refine v_cVv C dX9_findOdds_88 lX9_268 mX9_addOdd 68 (by omega) hM211.2.2.1 (by decide) rfl (ty_X9_addOdd l G ad (show JY l Z kn G ad n ic md (upB bd 41 (0, 2 + 5188 * y12.toInt + 3 * (y105.toInt - 1) + 1 + 1)) PR E0 E205 from hJ206.toB (by decide) (by omega) (by omega)) (show (0 : Int) ≤ 2 + 5188 * y12.toInt + 3 * (y105.toInt - 1) + 1 + 1 ∧ 2 + 5188 * y12.toInt + 3 * (y105.toInt - 1) + 1 + 1 ≤ 39999 by omega) x208 x y) ⟨by decide, by decide⟩ rfl (Nat.le_of_ble_eq_true rfl) ⟨Nat.zero_le _, Nat.zero_le _⟩ (fun E209 hJ210 => ?_)
              obtain ⟨x212, ex212⟩ : ∃ y : Int32, y = y105 + 1 := ⟨_, rfl⟩
              have hx212 : x212.toInt = (y105.toInt + 1) := by rw [ex212]; exact ti_add (rfl : Int32.toInt y105 = _) (show (1 : Int32).toInt = 1 by decide) (by omega) (by omega)
              refine v_iinc (v := x212) (lv' := [(0, .ref (ad 68)), (1, .int x), (2, .int y), (3, .int y12), (4, .int x212), (5, .int x201)]) C 4 [1, 2, 3, 4, 0, 5] dX9_findOdds_91 rfl (ex212.symm) (by decide) rfl ?_
              refine v_goto C 37 dX9_findOdds_94 (by decide) ?_
              refine v_sub (lv' := [(0, .ref (ad 68)), (1, .int x), (2, .int y), (3, .int y12), (4, .int x212)]) [0, 1, 2, 3, 4] rfl ?_
              exact ih108 _ x212 (hJ210.toB (by decide) (by have := hx212; omega) (by have := hx212; omega)) (by have := hx212; omega) (by have := hx212; omega)
        exact LP104 100000 _ 1 (hJ103.toB (by decide) (by have := (show (1 : Int32).toInt = 1 by decide); omega) (by have := (show (1 : Int32).toInt = 1 by decide); omega)) (by have := (show (1 : Int32).toInt = 1 by decide); omega) (by have := (show (1 : Int32).toInt = 1 by decide); omega)
  exact LP11 100000 _ 0 (hJ9.toB (by decide) (by have := (show (0 : Int32).toInt = 0 by decide); omega) (by have := (show (0 : Int32).toInt = 0 by decide); omega)) (by have := (show (0 : Int32).toInt = 0 by decide); omega) (by have := (show (0 : Int32).toInt = 0 by decide); omega)

set_option maxRecDepth 20000 in
theorem ty_X9_odds (l : Launch) (G : Gl) (ad : Nat → Nat) {Z : (Nat → va_E) → Prop} {kn : Int} {n : Nat} {ic md : Nat → Int32} {bd : Nat → Int × Int} {E0 E : Nat → va_E} (hJ : JY l Z kn G ad n ic md bd PR E0 E) (hf41 : ((0 : Int) ≤ (bd 41).1 ∧ (bd 41).2 ≤ 40000) ∧ ((bd 41).1 ≤ 0 ∧ 40000 ≤ (bd 41).2)) (x : Int32) (y : Int32) : CtI l G yX9_odds cX9_odds 3 .int 6 150 (n) ad E [.ref (ad 68), .int x, .int y] (fun r E' => ((-2147483648 : Int) ≤ r.toInt ∧ r.toInt ≤ 2147483647) ∧ JY l Z kn G ad n ic md bd PR E0 E') := by
  refine CtI.of (by decide) (Nat.le_of_ble_eq_true rfl) (fun X A C => ?_)
  refine v_sub (lv' := [(0, .ref (ad 68)), (1, .int x), (2, .int y)]) [0, 1, 2] rfl ?_
  have hn := hJ.hn
  have hz16 := hJ.1.2.2.2.2
  refine v_iload_n C 1 dX9_odds_0 rfl rfl ?_
  refine v_iload_n C 2 dX9_odds_1 rfl rfl ?_
  refine v_cSp C dX9_odds_2 lX9_277 mX9_areOdds (ty_X9_areOdds l G ad hJ x y) ⟨by decide, by decide⟩ rfl (Nat.le_of_ble_eq_true rfl) ⟨Nat.zero_le _, Nat.zero_le _⟩ (fun r1 hp2 => ?_)
  rcases hp2 with ⟨rfl, hp2⟩ | ⟨rfl, hp2⟩
  · refine b_if_ne C 10 dX9_odds_5 (by decide) (show (1 : Int32).toInt = 1 by decide) (fun c3 => ?_) (fun c3 => absurd c3 (by decide))
    refine v_aload_n C 0 dX9_odds_10 rfl rfl ?_
    refine v_iload_n C 1 dX9_odds_11 rfl rfl ?_
    refine v_iload_n C 2 dX9_odds_12 rfl rfl ?_
    obtain ⟨im8, hM8, hb8⟩ := hJ.1.1
    have hq8 := hM8.b
    refine v_cVv C dX9_odds_13 lX9_280 mX9_findOdds 68 (by omega) hM8.2.2.1 (by decide) rfl (ty_X9_findOdds l G ad hJ (by omega) x (show (0 : Int) ≤ Int32.toInt x ∧ Int32.toInt x ≤ 59999999 by omega) y (show (0 : Int) ≤ Int32.toInt y ∧ Int32.toInt y ≤ 59999999 by omega) (by omega)) ⟨by decide, by decide⟩ rfl (Nat.le_of_ble_eq_true rfl) ⟨Nat.zero_le _, Nat.zero_le _⟩ (fun E5 hJ7 => ?_)
    refine v_aload_n C 0 dX9_odds_16 rfl rfl ?_
    obtain ⟨im9, hM9, hb9⟩ := hJ7.1.1
    have hq9 := hM9.b
    refine v_geti (v := im9 41) C 68 dX9_odds_17 fX9_265 (by omega) hM9.2.2.1 rfl rfl ?_
    have him9_41r := hb9 41
    have him9_41 : (0 : Int) ≤ (im9 41).toInt ∧ (im9 41).toInt ≤ 40000 := by have := hb9 41; omega
    exact v_ret C dX9_odds_20 rfl rfl ⟨(ti_any (im9 41)), hJ7⟩
  · refine b_if_ne C 10 dX9_odds_5 (by decide) (show (0 : Int32).toInt = 0 by decide) (fun c10 => absurd c10 (by decide)) (fun c10 => ?_)
    refine v_iconst (v := (-1)) C dX9_odds_8 (by decide) ?_
    exact v_ret C dX9_odds_9 rfl rfl ⟨(ti_any (-1)), hJ⟩

set_option maxRecDepth 20000 in
theorem ty_X9_odd (l : Launch) (G : Gl) (ad : Nat → Nat) {Z : (Nat → va_E) → Prop} {kn : Int} {n : Nat} {ic md : Nat → Int32} {bd : Nat → Int × Int} {E0 E : Nat → va_E} (hJ : JY l Z kn G ad n ic md bd PR E0 E) (hf41 : ((0 : Int) ≤ (bd 41).1 ∧ (bd 41).2 ≤ 40000) ∧ ((bd 41).1 ≤ 0 ∧ 40000 ≤ (bd 41).2)) (x : Int32) (y : Int32) (z : Int32) : CtI l G yX9_odd cX9_odd 4 .int 6 150 (n) ad E [.ref (ad 68), .int x, .int y, .int z] (fun r E' => ((-2147483648 : Int) ≤ r.toInt ∧ r.toInt ≤ 2147483647) ∧ JY l Z kn G ad n ic md bd PR E0 E') := by
  refine CtI.of (by decide) (Nat.le_of_ble_eq_true rfl) (fun X A C => ?_)
  refine v_sub (lv' := [(0, .ref (ad 68)), (1, .int x), (2, .int y), (3, .int z)]) [0, 1, 2, 3] rfl ?_
  have hn := hJ.hn
  have hz16 := hJ.1.2.2.2.2
  refine v_iload_n C 1 dX9_odd_0 rfl rfl ?_
  refine v_iload_n C 2 dX9_odd_1 rfl rfl ?_
  refine v_cSp C dX9_odd_2 lX9_277 mX9_areOdds (ty_X9_areOdds l G ad hJ x y) ⟨by decide, by decide⟩ rfl (Nat.le_of_ble_eq_true rfl) ⟨Nat.zero_le _, Nat.zero_le _⟩ (fun r1 hp2 => ?_)
  rcases hp2 with ⟨rfl, hp2⟩ | ⟨rfl, hp2⟩
  · refine b_if_ne C 10 dX9_odd_5 (by decide) (show (1 : Int32).toInt = 1 by decide) (fun c3 => ?_) (fun c3 => absurd c3 (by decide))
    refine v_aload_n C 0 dX9_odd_10 rfl rfl ?_
    refine v_iload_n C 1 dX9_odd_11 rfl rfl ?_
    refine v_iload_n C 2 dX9_odd_12 rfl rfl ?_
    obtain ⟨im8, hM8, hb8⟩ := hJ.1.1
    have hq8 := hM8.b
    refine v_cVv C dX9_odd_13 lX9_280 mX9_findOdds 68 (by omega) hM8.2.2.1 (by decide) rfl (ty_X9_findOdds l G ad hJ (by omega) x (show (0 : Int) ≤ Int32.toInt x ∧ Int32.toInt x ≤ 59999999 by omega) y (show (0 : Int) ≤ Int32.toInt y ∧ Int32.toInt y ≤ 59999999 by omega) (by omega)) ⟨by decide, by decide⟩ rfl (Nat.le_of_ble_eq_true rfl) ⟨Nat.zero_le _, Nat.zero_le _⟩ (fun E5 hJ7 => ?_)
    refine v_iload_n C 3 dX9_odd_16 rfl rfl ?_
    refine b_if_lt C 37 dX9_odd_17 (by decide) (rfl : Int32.toInt z = _) (fun c9 => ?_) (fun c9 => ?_)
    · refine v_iconst (v := (-1)) C dX9_odd_37 (by decide) ?_
      exact v_ret C dX9_odd_38 rfl rfl ⟨(ti_any (-1)), hJ7⟩
    · refine v_iload_n C 3 dX9_odd_20 rfl rfl ?_
      refine v_aload_n C 0 dX9_odd_21 rfl rfl ?_
      obtain ⟨im10, hM10, hb10⟩ := hJ7.1.1
      have hq10 := hM10.b
      refine v_geti (v := im10 41) C 68 dX9_odd_22 fX9_265 (by omega) hM10.2.2.1 rfl rfl ?_
      have him10_41r := hb10 41
      have him10_41 : (0 : Int) ≤ (im10 41).toInt ∧ (im10 41).toInt ≤ 40000 := by have := hb10 41; omega
      refine b_icmp_ge C 37 dX9_odd_25 (by decide) (rfl : Int32.toInt z = _) (rfl : Int32.toInt (im10 41) = _) (fun c11 => ?_) (fun c11 => ?_)
      · refine v_iconst (v := (-1)) C dX9_odd_37 (by decide) ?_
        exact v_ret C dX9_odd_38 rfl rfl ⟨(ti_any (-1)), hJ7⟩
      · refine v_aload_n C 0 dX9_odd_28 rfl rfl ?_
        refine v_getr C 68 dX9_odd_29 fX9_113 (by omega) hM10.2.2.1 rfl rfl ?_
        refine v_iload_n C 3 dX9_odd_32 rfl rfl ?_
        obtain ⟨f13, hE13, hb13⟩ := hJ7.1.2.1.getA (b := 97) (by omega) rfl
        refine v_ald (v := f13 (z.toInt).toNat) C 97 dX9_odd_33 (by omega) hE13 (ti_in (rfl : Int32.toInt z = _) (by omega) (by omega)) (by rw [ti_cl (rfl : Int32.toInt z = _)]) ?_
        refine v_top (fun x14 _ => ?_)
        refine v_goto C 38 dX9_odd_34 (by decide) ?_
        exact v_ret C dX9_odd_38 rfl rfl ⟨(ti_any x14), hJ7⟩
  · refine b_if_ne C 10 dX9_odd_5 (by decide) (show (0 : Int32).toInt = 0 by decide) (fun c15 => absurd c15 (by decide)) (fun c15 => ?_)
    refine v_iconst (v := (-1)) C dX9_odd_8 (by decide) ?_
    exact v_ret C dX9_odd_9 rfl rfl ⟨(ti_any (-1)), hJ⟩

set_option maxRecDepth 20000 in
theorem ty_X9_least (l : Launch) (G : Gl) (ad : Nat → Nat) {Z : (Nat → va_E) → Prop} {kn : Int} {n : Nat} {ic md : Nat → Int32} {bd : Nat → Int × Int} {E0 E : Nat → va_E} (hJ : JY l Z kn G ad n ic md bd PT E0 E) {gop gx gy fl : Nat → Int32} (hgo : E0 85 = aI G 60 gop) (hgx : E0 86 = aI G 60 gx) (hgy : E0 87 = aI G 60 gy) (hgl : E0 88 = aI G 6 fl) (hbl : ∀ k, 0 ≤ (fl k).toInt ∧ (fl k).toInt ≤ 10) (hLX : LXg gop gx) (hf32 : ((0 : Int) ≤ (bd 32).1 ∧ (bd 32).2 ≤ 10) ∧ ((bd 32).1 ≤ 0 ∧ 10 ≤ (bd 32).2)) (hf35 : ((0 : Int) ≤ (bd 35).1 ∧ (bd 35).2 ≤ 8) ∧ ((bd 35).1 ≤ 0 ∧ 8 ≤ (bd 35).2)) (hf41 : ((0 : Int) ≤ (bd 41).1 ∧ (bd 41).2 ≤ 40000) ∧ ((bd 41).1 ≤ 0 ∧ 40000 ≤ (bd 41).2)) (p : Int32) (x : Int32) (y : Int32) (u : Int32) (v : Int32) : CtI l G yX9_least cX9_least 6 .int 10 246 (n) ad E [.ref (ad 68), .int p, .int x, .int y, .int u, .int v] (fun r E' => ((-2147483648 : Int) ≤ r.toInt ∧ r.toInt ≤ 2147483647) ∧ JY l Z kn G ad n ic md bd PT E0 E') := by
  refine CtI.of (by decide) (Nat.le_of_ble_eq_true rfl) (fun X A C => ?_)
  refine v_sub (lv' := [(0, .ref (ad 68)), (1, .int p), (2, .int x), (3, .int y), (4, .int u), (5, .int v)]) [0, 1, 2, 3, 4, 5] rfl ?_
  have hn := hJ.hn
  have hz16 := hJ.1.2.2.2.2
  refine v_iload_n C 1 dX9_least_0 rfl rfl ?_
  refine v_cSp C dX9_least_1 lX9_194 mX9_isProgram (ty_X9_isProgram l G ad hJ.self p) ⟨by decide, by decide⟩ rfl (Nat.le_of_ble_eq_true rfl) ⟨Nat.zero_le _, Nat.zero_le _⟩ (fun r1 hp2 => ?_)
  rcases hp2 with ⟨rfl, hp2⟩ | ⟨rfl, hp2⟩
  · refine b_if_eq C 29 dX9_least_4 (by decide) (show (1 : Int32).toInt = 1 by decide) (fun c3 => absurd c3 (by decide)) (fun c3 => ?_)
    refine v_aload_n C 0 dX9_least_7 rfl rfl ?_
    refine v_iload_n C 2 dX9_least_8 rfl rfl ?_
    refine v_iload_n C 3 dX9_least_9 rfl rfl ?_
    obtain ⟨im6, hM6, hb6⟩ := hJ.1.1
    have hq6 := hM6.b
    refine v_cVp C dX9_least_10 lX9_259 mX9_isLaw 68 (by omega) hM6.2.2.1 (by decide) rfl (ty_X9_isLaw l G ad hJ.self x y) ⟨by decide, by decide⟩ rfl (Nat.le_of_ble_eq_true rfl) ⟨Nat.zero_le _, Nat.zero_le _⟩ (fun r4 hp5 => ?_)
    rcases hp5 with ⟨rfl, hp5⟩ | ⟨rfl, hp5⟩
    · refine b_if_eq C 29 dX9_least_13 (by decide) (show (1 : Int32).toInt = 1 by decide) (fun c7 => absurd c7 (by decide)) (fun c7 => ?_)
      refine v_iload C 4 dX9_least_16 rfl ?_
      refine v_iload C 5 dX9_least_18 rfl ?_
      refine v_ldcw C dX9_least_20 kX9_276 ?_
      refine v_cSp C dX9_least_23 lX9_283 mX9_isRow (ty_X9_isRow l G ad hJ.self u v 2000000 (show (0 : Int) ≤ Int32.toInt 2000000 ∧ Int32.toInt 2000000 ≤ 2000000 by decide)) ⟨by decide, by decide⟩ rfl (Nat.le_of_ble_eq_true rfl) ⟨Nat.zero_le _, Nat.zero_le _⟩ (fun r8 hp9 => ?_)
      have := (show (2000000 : Int32).toInt = 2000000 by decide)
      rcases hp9 with ⟨rfl, hp9⟩ | ⟨rfl, hp9⟩
      · refine b_if_ne C 31 dX9_least_26 (by decide) (show (1 : Int32).toInt = 1 by decide) (fun c10 => ?_) (fun c10 => absurd c10 (by decide))
        refine v_aload_n C 0 dX9_least_31 rfl rfl ?_
        refine v_iload_n C 1 dX9_least_32 rfl rfl ?_
        refine v_cVv C dX9_least_33 lX9_219 mX9_take 68 (by omega) hM6.2.2.1 (by decide) rfl (ty_X9_take l G ad hJ hgo hgx hgy hgl hbl p (show (0 : Int) ≤ Int32.toInt p ∧ Int32.toInt p ≤ 5 by omega)) ⟨by decide, by decide⟩ rfl (Nat.le_of_ble_eq_true rfl) ⟨Nat.zero_le _, Nat.zero_le _⟩ (fun E11 hT13 => ?_)
        obtain ⟨fo13, fx13, fy13, h8913, h9013, h9113, hT13, hJ12⟩ := hT13
        have hbm13 := hbl (p.toInt).toNat
        have hox13 : OXm fo13 fx13 ((fl (p.toInt).toNat).toInt).toNat := fun j hj hq => by have q := hT13 j hj; rw [q.1] at hq; rw [q.2.1]; exact hLX _ (by omega) hq
        refine v_aload_n C 0 dX9_least_36 rfl rfl ?_
        obtain ⟨im19, hM19, hb19⟩ := hJ12.1.1
        have hq19 := hM19.b
        refine v_cVi C dX9_least_37 lX9_222 mX9_mixOf 68 (by omega) hM19.2.2.1 (by decide) rfl (ty_X9_mixOf l G ad hJ12.self h8913 (show ((fl (p.toInt).toNat).toInt).toNat ≤ 10 by omega) (show ((((fl (p.toInt).toNat).toInt).toNat : Nat) : Int) ≤ (fl (p.toInt).toNat).toInt ∧ (fl (p.toInt).toNat).toInt ≤ ((((fl (p.toInt).toNat).toInt).toNat : Nat) : Int) by omega)) ⟨by decide, by decide⟩ rfl (Nat.le_of_ble_eq_true rfl) ⟨Nat.zero_le _, Nat.zero_le _⟩ (fun r14 E15 hp16 => ?_)
        rcases hp16 with ⟨hp16, hp16k, hJ17⟩ | ⟨hp16, hJ17⟩
        · have hJ18 := hJ12.trans (fun _ => PT_PR) hJ17
          have e20 := (hJ17.1.2.1.1 89 (by unfold PR; omega)).trans h8913
          have e21 := (hJ17.1.2.1.1 90 (by unfold PR; omega)).trans h9013
          have e22 := (hJ17.1.2.1.1 91 (by unfold PR; omega)).trans h9113
          obtain rfl : r14 = (-6 : Int32) := ti_ext (hp16.trans (by decide))
          refine v_bipush (v := (-6)) C dX9_least_40 (by decide) ?_
          refine b_icmp_eq C 48 dX9_least_42 (by decide) (show ((-6) : Int32).toInt = (-6) by decide) (show ((-6) : Int32).toInt = (-6) by decide) (fun c23 => ?_) (fun c23 => absurd c23 (by decide))
          refine v_aload_n C 0 dX9_least_48 rfl rfl ?_
          refine v_iload C 4 dX9_least_49 rfl ?_
          refine v_iload C 4 dX9_least_51 rfl ?_
          refine v_iload C 5 dX9_least_53 rfl ?_
          refine v_iadd C dX9_least_55 ?_
          refine v_top (fun x24 ex24 => ?_)
          have hx24 : x24.toInt = (u.toInt + v.toInt) := by rw [ex24]; exact ti_add (rfl : Int32.toInt u = _) (rfl : Int32.toInt v = _) (by omega) (by omega)
          obtain ⟨im29, hM29, hb29⟩ := hJ18.1.1
          have hq29 := hM29.b
          refine v_cVv C dX9_least_56 lX9_280 mX9_findOdds 68 (by omega) hM29.2.2.1 (by decide) rfl (ty_X9_findOdds l G ad hJ18.self (show ((0 : Int) ≤ (bd 41).1 ∧ (bd 41).2 ≤ 40000) ∧ ((bd 41).1 ≤ (0 : Int) ∧ 40000 ≤ (bd 41).2) by omega) u (show (0 : Int) ≤ Int32.toInt u ∧ Int32.toInt u ≤ 59999999 by omega) x24 (show (0 : Int) ≤ Int32.toInt x24 ∧ Int32.toInt x24 ≤ 59999999 by have := hx24; omega) (by omega)) ⟨by decide, by decide⟩ rfl (Nat.le_of_ble_eq_true rfl) ⟨Nat.zero_le _, Nat.zero_le _⟩ (fun E26 hJ28 => ?_)
          have hJ30 := hJ18.trans (fun _ => PT_PR) hJ28
          have e31 := (hJ28.1.2.1.1 89 (by unfold PR; omega)).trans e20
          have e32 := (hJ28.1.2.1.1 90 (by unfold PR; omega)).trans e21
          have e33 := (hJ28.1.2.1.1 91 (by unfold PR; omega)).trans e22
          refine v_aload_n C 0 dX9_least_59 rfl rfl ?_
          refine v_iload_n C 2 dX9_least_60 rfl rfl ?_
          refine v_iload_n C 3 dX9_least_61 rfl rfl ?_
          obtain ⟨im38, hM38, hb38⟩ := hJ30.1.1
          have hq38 := hM38.b
          refine v_cVi C dX9_least_62 lX9_286 mX9_firstBroken 68 (by omega) hM38.2.2.1 (by decide) rfl (ty_X9_firstBroken l G ad hJ30.self e31 e32 (show ((fl (p.toInt).toNat).toInt).toNat ≤ 10 by omega) hp16k hox13 (by decide) (show ((((fl (p.toInt).toNat).toInt).toNat : Nat) : Int) ≤ (fl (p.toInt).toNat).toInt ∧ (fl (p.toInt).toNat).toInt ≤ ((((fl (p.toInt).toNat).toInt).toNat : Nat) : Int) by omega) (show (0 : Int) ≤ (bd 41).1 ∧ (bd 41).2 ≤ 40000 by omega) x (show (0 : Int) ≤ Int32.toInt x ∧ Int32.toInt x ≤ 2147483647 by have := ti_any x; omega) y (by omega)) ⟨by decide, by decide⟩ rfl (Nat.le_of_ble_eq_true rfl) ⟨Nat.zero_le _, Nat.zero_le _⟩ (fun r34 E35 hp36 => ?_)
          obtain ⟨hp36, hJ37⟩ := hp36
          have hJ39 := hJ30.trans (fun _ => PT_PR) hJ37
          have e40 := (hJ37.1.2.1.1 89 (by unfold PR; omega)).trans e31
          have e41 := (hJ37.1.2.1.1 90 (by unfold PR; omega)).trans e32
          have e42 := (hJ37.1.2.1.1 91 (by unfold PR; omega)).trans e33
          exact v_ret C dX9_least_65 rfl rfl ⟨(ti_any r34), ((hJ39.outB (k := 35) (by decide) (show (bd 35).1 ≤ 0 by omega) (show 8 ≤ (bd 35).2 by omega)).outB (k := 32) (by decide) (show (bd 32).1 ≤ (fl (p.toInt).toNat).toInt by omega) (show (fl (p.toInt).toNat).toInt ≤ (bd 32).2 by omega))⟩
        · have hJ18 := hJ12.trans (fun _ => PT_PR) hJ17
          have e43 := (hJ17.1.2.1.1 89 (by unfold PR; omega)).trans h8913
          have e44 := (hJ17.1.2.1.1 90 (by unfold PR; omega)).trans h9013
          have e45 := (hJ17.1.2.1.1 91 (by unfold PR; omega)).trans h9113
          refine v_bipush (v := (-6)) C dX9_least_40 (by decide) ?_
          refine b_icmp_eq C 48 dX9_least_42 (by decide) (rfl : Int32.toInt r14 = _) (show ((-6) : Int32).toInt = (-6) by decide) (fun c46 => absurd c46 hp16) (fun c46 => ?_)
          refine v_bipush (v := (-4)) C dX9_least_45 (by decide) ?_
          exact v_ret C dX9_least_47 rfl rfl ⟨(ti_any (-4)), ((hJ18.outB (k := 35) (by decide) (show (bd 35).1 ≤ 0 by omega) (show 8 ≤ (bd 35).2 by omega)).outB (k := 32) (by decide) (show (bd 32).1 ≤ (fl (p.toInt).toNat).toInt by omega) (show (fl (p.toInt).toNat).toInt ≤ (bd 32).2 by omega))⟩
      · refine b_if_ne C 31 dX9_least_26 (by decide) (show (0 : Int32).toInt = 0 by decide) (fun c47 => absurd c47 (by decide)) (fun c47 => ?_)
        refine v_iconst (v := (-1)) C dX9_least_29 (by decide) ?_
        exact v_ret C dX9_least_30 rfl rfl ⟨(ti_any (-1)), hJ⟩
    · refine b_if_eq C 29 dX9_least_13 (by decide) (show (0 : Int32).toInt = 0 by decide) (fun c48 => ?_) (fun c48 => absurd c48 (by decide))
      refine v_iconst (v := (-1)) C dX9_least_29 (by decide) ?_
      exact v_ret C dX9_least_30 rfl rfl ⟨(ti_any (-1)), hJ⟩
  · refine b_if_eq C 29 dX9_least_4 (by decide) (show (0 : Int32).toInt = 0 by decide) (fun c49 => ?_) (fun c49 => absurd c49 (by decide))
    refine v_iconst (v := (-1)) C dX9_least_29 (by decide) ?_
    exact v_ret C dX9_least_30 rfl rfl ⟨(ti_any (-1)), hJ⟩

set_option maxRecDepth 20000 in
theorem ty_X9_isRight (l : Launch) (G : Gl) (ad : Nat → Nat) {Z : (Nat → va_E) → Prop} {kn : Int} {n : Nat} {ic md : Nat → Int32} {bd : Nat → Int × Int} {E0 E : Nat → va_E} (hJ : JY l Z kn G ad n ic md bd PR E0 E) {fo fx : Nat → Int32} {m : Nat} (hfo : E0 89 = aI G 10 fo) (hfx : E0 90 = aI G 10 fx) (hm : m ≤ 10) (hox : OXm fo fx m) (hf32 : (m : Int) ≤ (bd 32).1 ∧ (bd 32).2 ≤ (m : Int)) (hf41 : (0 : Int) ≤ (bd 41).1 ∧ (bd 41).2 ≤ 40000) (x : Int32) (hx : (0 : Int) ≤ x.toInt ∧ x.toInt ≤ 2147483647) (y : Int32) (hlw : ((x.toInt % 10 = 1 ∨ x.toInt % 10 = 2) → x.toInt / 10 ≤ 4)) : CtI l G yX9_isRight cX9_isRight 3 .boolean 10 246 (n) ad E [.ref (ad 68), .int x, .int y] (fun r E' => (r = 0 ∨ r = 1) ∧ JY l Z kn G ad n ic md (upB bd 35 (0, 8)) PR E0 E') := by
  refine CtI.of (by decide) (Nat.le_of_ble_eq_true rfl) (fun X A C => ?_)
  refine v_sub (lv' := [(0, .ref (ad 68)), (1, .int x), (2, .int y)]) [0, 1, 2] rfl ?_
  have hn := hJ.hn
  have hz16 := hJ.1.2.2.2.2
  refine v_aload_n C 0 dX9_isRight_0 rfl rfl ?_
  obtain ⟨im5, hM5, hb5⟩ := hJ.1.1
  have hq5 := hM5.b
  refine v_cVi C dX9_isRight_1 lX9_222 mX9_mixOf 68 (by omega) hM5.2.2.1 (by decide) rfl (ty_X9_mixOf l G ad hJ hfo hm (show (m : Int) ≤ (bd 32).1 ∧ (bd 32).2 ≤ (m : Int) by omega)) ⟨by decide, by decide⟩ rfl (Nat.le_of_ble_eq_true rfl) ⟨Nat.zero_le _, Nat.zero_le _⟩ (fun r1 E2 hp3 => ?_)
  rcases hp3 with ⟨hp3, hok, hJ4⟩ | ⟨hp3, hJ4⟩
  · obtain rfl : r1 = (-6 : Int32) := ti_ext (hp3.trans (by decide))
    refine v_bipush (v := (-6)) C dX9_isRight_4 (by decide) ?_
    refine b_icmp_ne C 24 dX9_isRight_6 (by decide) (show ((-6) : Int32).toInt = (-6) by decide) (show ((-6) : Int32).toInt = (-6) by decide) (fun c6 => absurd c6 (by decide)) (fun c6 => ?_)
    refine v_aload_n C 0 dX9_isRight_9 rfl rfl ?_
    refine v_iload_n C 1 dX9_isRight_10 rfl rfl ?_
    refine v_iload_n C 2 dX9_isRight_11 rfl rfl ?_
    obtain ⟨im11, hM11, hb11⟩ := hJ4.1.1
    have hq11 := hM11.b
    refine v_cVi C dX9_isRight_12 lX9_286 mX9_firstBroken 68 (by omega) hM11.2.2.1 (by decide) rfl (ty_X9_firstBroken l G ad hJ4 hfo hfx hm hok hox (by decide) (show (m : Int) ≤ (bd 32).1 ∧ (bd 32).2 ≤ (m : Int) by omega) (show (0 : Int) ≤ (bd 41).1 ∧ (bd 41).2 ≤ 40000 by omega) x (show (0 : Int) ≤ Int32.toInt x ∧ Int32.toInt x ≤ 2147483647 by have := ti_any x; omega) y (by omega)) ⟨by decide, by decide⟩ rfl (Nat.le_of_ble_eq_true rfl) ⟨Nat.zero_le _, Nat.zero_le _⟩ (fun r7 E8 hp9 => ?_)
    obtain ⟨hp9, hJ10⟩ := hp9
    refine v_bipush (v := (-6)) C dX9_isRight_15 (by decide) ?_
    refine b_icmp_ne C 24 dX9_isRight_17 (by decide) (rfl : Int32.toInt r7 = _) (show ((-6) : Int32).toInt = (-6) by decide) (fun c12 => ?_) (fun c12 => ?_)
    · refine v_iconst (v := 0) C dX9_isRight_24 (by decide) ?_
      exact v_ret C dX9_isRight_25 rfl rfl ⟨Or.inl rfl, hJ10.toB (by decide) (by omega) (by omega)⟩
    · refine v_iconst (v := 1) C dX9_isRight_20 (by decide) ?_
      refine v_goto C 25 dX9_isRight_21 (by decide) ?_
      exact v_ret C dX9_isRight_25 rfl rfl ⟨Or.inr rfl, hJ10.toB (by decide) (by omega) (by omega)⟩
  · refine v_bipush (v := (-6)) C dX9_isRight_4 (by decide) ?_
    refine b_icmp_ne C 24 dX9_isRight_6 (by decide) (rfl : Int32.toInt r1 = _) (show ((-6) : Int32).toInt = (-6) by decide) (fun c13 => ?_) (fun c13 => absurd (by have := c13; omega) hp3)
    refine v_iconst (v := 0) C dX9_isRight_24 (by decide) ?_
    exact v_ret C dX9_isRight_25 rfl rfl ⟨Or.inl rfl, hJ4.toB (by decide) (by omega) (by omega)⟩

set_option maxRecDepth 20000 in
theorem ty_X9_changeLine (l : Launch) (G : Gl) (ad : Nat → Nat) {Z : (Nat → va_E) → Prop} {kn : Int} {n : Nat} {ic md : Nat → Int32} {bd : Nat → Int × Int} {E0 E : Nat → va_E} (hJ : JY l Z kn G ad n ic md bd PT E0 E) {fo fx : Nat → Int32} {m : Nat} (h89 : E 89 = aI G 10 fo) (h90 : E 90 = aI G 10 fx) (hox : OXm fo fx m) (i : Int32) (hi : (0 : Int) ≤ i.toInt ∧ i.toInt ≤ 9) (u : Int32) (hu : (0 : Int) ≤ u.toInt ∧ u.toInt ≤ 10) : CtI l G yX9_changeLine cX9_changeLine 5 .boolean 1 22 (n) ad E [.ref (ad 68), .int i, .int u] (fun r E' => ((r = 1 ∧ u.toInt ≤ 5) ∨ (r = 0 ∧ (0 : Int) ≤ 1)) ∧ ∃ fo' fx' : Nat → Int32, E' 89 = aI G 10 fo' ∧ E' 90 = aI G 10 fx' ∧ OXm fo' fx' m ∧ JY l Z kn G ad n ic md bd PT E0 E') := by
  refine CtI.of (by decide) (Nat.le_of_ble_eq_true rfl) (fun X A C => ?_)
  refine v_sub (lv' := [(0, .ref (ad 68)), (1, .int i), (2, .int u)]) [0, 1, 2] rfl ?_
  have hn := hJ.hn
  have hz16 := hJ.1.2.2.2.2
  refine v_iload_n C 2 dX9_changeLine_0 rfl rfl ?_
  refine v_istore_n (lv' := [(0, .ref (ad 68)), (1, .int i), (2, .int u), (3, .int u)]) C [1, 2, 3, 0] dX9_changeLine_1 rfl (by decide) rfl ?_
  refine v_aload_n C 0 dX9_changeLine_2 rfl rfl ?_
  obtain ⟨im1, hM1, hb1⟩ := hJ.1.1
  have hq1 := hM1.b
  refine v_getr C 68 dX9_changeLine_3 fX9_88 (by omega) hM1.2.2.1 rfl rfl ?_
  refine v_iload_n C 1 dX9_changeLine_6 rfl rfl ?_
  refine v_ald (v := fo (i.toInt).toNat) C 89 dX9_changeLine_7 (by omega) h89 (ti_in (rfl : Int32.toInt i = _) (by omega) (by omega)) (by rw [ti_cl (rfl : Int32.toInt i = _)]) ?_
  refine v_iconst (v := 4) C dX9_changeLine_8 (by decide) ?_
  refine b_icmp_ne C 35 dX9_changeLine_9 (by decide) (rfl : Int32.toInt (fo (i.toInt).toNat) = _) (show (4 : Int32).toInt = 4 by decide) (fun c2 => ?_) (fun c2 => ?_)
  · refine v_aload_n C 0 dX9_changeLine_35 rfl rfl ?_
    refine v_getr C 68 dX9_changeLine_36 fX9_88 (by omega) hM1.2.2.1 rfl rfl ?_
    refine v_iload_n C 1 dX9_changeLine_39 rfl rfl ?_
    refine v_ald (v := fo (i.toInt).toNat) C 89 dX9_changeLine_40 (by omega) h89 (ti_in (rfl : Int32.toInt i = _) (by omega) (by omega)) (by rw [ti_cl (rfl : Int32.toInt i = _)]) ?_
    refine v_iconst (v := 4) C dX9_changeLine_41 (by decide) ?_
    refine b_icmp_eq C 55 dX9_changeLine_42 (by decide) (rfl : Int32.toInt (fo (i.toInt).toNat) = _) (show (4 : Int32).toInt = 4 by decide) (fun c3 => ?_) (fun c3 => ?_)
    · refine v_iconst (v := 0) C dX9_changeLine_55 (by decide) ?_
      refine v_istore (lv' := [(0, .ref (ad 68)), (1, .int i), (2, .int u), (3, .int u), (4, .int 0)]) C [1, 2, 3, 4, 0] dX9_changeLine_56 (by decide) rfl ?_
      have LP4 : ∀ (t : Nat) (y5 : Int32) (y6 : Int32), ((0 : Int) ≤ y5.toInt ∧ y5.toInt ≤ 10) → ((0 : Int) ≤ y6.toInt ∧ y6.toInt ≤ 5) → (u.toInt ≤ y5.toInt + y6.toInt + 1) → 6 - y6.toInt < (t : Int) → V X G A 5 (QI X G A (n) ad (fun r E' => ((r = 1 ∧ u.toInt ≤ 5) ∨ (r = 0 ∧ (0 : Int) ≤ 1)) ∧ ∃ fo' fx' : Nat → Int32, E' 89 = aI G 10 fo' ∧ E' 90 = aI G 10 fx' ∧ OXm fo' fx' m ∧ JY l Z kn G ad n ic md bd PT E0 E')) n ad 0 0 E 58 [(0, .ref (ad 68)), (1, .int i), (3, .int y5), (4, .int y6)] [] := by
        intro t12
        induction t12 with
        | zero => intro y5 y6 hy5 hy6 hq7 hm11; exfalso; omega
        | succ t12 ih10 =>
          intro y5 y6 hy5 hy6 hq7 hm11
          refine v_iload C 3 dX9_changeLine_58 rfl ?_
          refine v_aload_n C 0 dX9_changeLine_60 rfl rfl ?_
          refine v_geti (v := im1 16) C 68 dX9_changeLine_61 fX9_135 (by omega) hM1.2.2.1 rfl rfl ?_
          have him1_16r : (bd 16).1 ≤ (im1 16).toInt ∧ (im1 16).toInt ≤ (bd 16).2 := hb1 16
          have him1_16 : (0 : Int) ≤ (im1 16).toInt ∧ (im1 16).toInt ≤ 5 := by omega
          refine b_icmp_ge C 101 dX9_changeLine_64 (by decide) (rfl : Int32.toInt y6 = _) (rfl : Int32.toInt (im1 16) = _) (fun c13 => ?_) (fun c13 => ?_)
          · refine v_iconst (v := 0) C dX9_changeLine_101 (by decide) ?_
            exact v_ret C dX9_changeLine_102 rfl rfl ⟨Or.inr ⟨rfl, by omega⟩, _, _, h89, h90, hox, hJ⟩
          · refine v_iload C 3 dX9_changeLine_67 rfl ?_
            refine v_aload_n C 0 dX9_changeLine_69 rfl rfl ?_
            refine v_getr C 68 dX9_changeLine_70 fX9_91 (by omega) hM1.2.2.1 rfl rfl ?_
            refine v_iload_n C 1 dX9_changeLine_73 rfl rfl ?_
            refine v_ald (v := fx (i.toInt).toNat) C 90 dX9_changeLine_74 (by omega) h90 (ti_in (rfl : Int32.toInt i = _) (by omega) (by omega)) (by rw [ti_cl (rfl : Int32.toInt i = _)]) ?_
            refine b_icmp_eq C 95 dX9_changeLine_75 (by decide) (rfl : Int32.toInt y6 = _) (rfl : Int32.toInt (fx (i.toInt).toNat) = _) (fun c14 => ?_) (fun c14 => ?_)
            · obtain ⟨x15, ex15⟩ : ∃ y : Int32, y = y6 + 1 := ⟨_, rfl⟩
              have hx15 : x15.toInt = (y6.toInt + 1) := by rw [ex15]; exact ti_add (rfl : Int32.toInt y6 = _) (show (1 : Int32).toInt = 1 by decide) (by omega) (by omega)
              refine v_iinc (v := x15) (lv' := [(0, .ref (ad 68)), (1, .int i), (3, .int y5), (4, .int x15)]) C 3 [1, 2, 3, 0] dX9_changeLine_95 rfl (ex15.symm) (by decide) rfl ?_
              refine v_goto C 58 dX9_changeLine_98 (by decide) ?_
              exact ih10 y5 x15  (by have := hx15; omega) (by have := hx15; omega) (by have := hx15; omega) (by have := hx15; omega)
            · refine v_iload_n C 2 dX9_changeLine_78 rfl rfl ?_
              refine b_if_ne C 92 dX9_changeLine_79 (by decide) (rfl : Int32.toInt y5 = _) (fun c16 => ?_) (fun c16 => ?_)
              · obtain ⟨x17, ex17⟩ : ∃ y : Int32, y = y5 + (-1) := ⟨_, rfl⟩
                have hx17 : x17.toInt = (y5.toInt + (-1)) := by rw [ex17]; exact ti_add (rfl : Int32.toInt y5 = _) (show ((-1) : Int32).toInt = (-1) by decide) (by omega) (by omega)
                refine v_iinc (v := x17) (lv' := [(0, .ref (ad 68)), (1, .int i), (3, .int x17), (4, .int y6)]) C 2 [1, 2, 0, 3] dX9_changeLine_92 rfl (ex17.symm) (by decide) rfl ?_
                obtain ⟨x18, ex18⟩ : ∃ y : Int32, y = y6 + 1 := ⟨_, rfl⟩
                have hx18 : x18.toInt = (y6.toInt + 1) := by rw [ex18]; exact ti_add (rfl : Int32.toInt y6 = _) (show (1 : Int32).toInt = 1 by decide) (by omega) (by omega)
                refine v_iinc (v := x18) (lv' := [(0, .ref (ad 68)), (1, .int i), (3, .int x17), (4, .int x18)]) C 3 [1, 2, 3, 0] dX9_changeLine_95 rfl (ex18.symm) (by decide) rfl ?_
                refine v_goto C 58 dX9_changeLine_98 (by decide) ?_
                exact ih10 x17 x18  (by have := hx17; have := hx18; omega) (by have := hx17; have := hx18; omega) (by have := hx17; have := hx18; omega) (by have := hx17; have := hx18; omega)
              · refine v_aload_n C 0 dX9_changeLine_82 rfl rfl ?_
                refine v_getr C 68 dX9_changeLine_83 fX9_91 (by omega) hM1.2.2.1 rfl rfl ?_
                refine v_iload_n C 1 dX9_changeLine_86 rfl rfl ?_
                refine v_iload C 3 dX9_changeLine_87 rfl ?_
                refine v_ast C 90 dX9_changeLine_89 (by omega) h90 (ti_in (rfl : Int32.toInt i = _) (by omega) (by omega)) (fun E19 hE19_90 oE19 => ?_)
                rw [ti_cl (rfl : Int32.toInt i = _)] at hE19_90
                have hE19_89 := (oE19 89 (by decide)).trans h89
                have hE19_68 := (oE19 68 (by decide)).trans hM1.2.2.1
                have hJ20 := hJ.with (hJ.1.2.1.setA rfl (by unfold PT; omega) (fun q => ti_any (fx q)) (ti_any y6) hE19_90 oE19) (oE19 68 (by decide)) (oE19 69 (by decide)) (oE19 70 (by decide)) (fun j _ _ => oE19 j (by omega))
                have hM21 := hM1.of (oE19 68 (by decide)) (oE19 69 (by decide)) (oE19 70 (by decide))
                refine v_iconst (v := 1) C dX9_changeLine_90 (by decide) ?_
                exact v_ret C dX9_changeLine_91 rfl rfl ⟨Or.inl ⟨rfl, by omega⟩, _, _, hE19_89, hE19_90, OXm_x hox (by omega), hJ20⟩
      refine v_sub (lv' := [(0, .ref (ad 68)), (1, .int i), (3, .int u), (4, .int 0)]) [0, 1, 3, 4] rfl ?_
      exact LP4 100000 u 0  (by have := (show (0 : Int32).toInt = 0 by decide); omega) (by have := (show (0 : Int32).toInt = 0 by decide); omega) (by have := (show (0 : Int32).toInt = 0 by decide); omega) (by have := (show (0 : Int32).toInt = 0 by decide); omega)
    · refine v_aload_n C 0 dX9_changeLine_45 rfl rfl ?_
      refine v_getr C 68 dX9_changeLine_46 fX9_88 (by omega) hM1.2.2.1 rfl rfl ?_
      refine v_iload_n C 1 dX9_changeLine_49 rfl rfl ?_
      refine v_ald (v := fo (i.toInt).toNat) C 89 dX9_changeLine_50 (by omega) h89 (ti_in (rfl : Int32.toInt i = _) (by omega) (by omega)) (by rw [ti_cl (rfl : Int32.toInt i = _)]) ?_
      refine v_iconst (v := 1) C dX9_changeLine_51 (by decide) ?_
      refine b_icmp_ne C 103 dX9_changeLine_52 (by decide) (rfl : Int32.toInt (fo (i.toInt).toNat) = _) (show (1 : Int32).toInt = 1 by decide) (fun c22 => ?_) (fun c22 => ?_)
      · refine v_aload_n C 0 dX9_changeLine_103 rfl rfl ?_
        refine v_getr C 68 dX9_changeLine_104 fX9_88 (by omega) hM1.2.2.1 rfl rfl ?_
        refine v_iload_n C 1 dX9_changeLine_107 rfl rfl ?_
        refine v_ald (v := fo (i.toInt).toNat) C 89 dX9_changeLine_108 (by omega) h89 (ti_in (rfl : Int32.toInt i = _) (by omega) (by omega)) (by rw [ti_cl (rfl : Int32.toInt i = _)]) ?_
        refine v_iconst (v := 5) C dX9_changeLine_109 (by decide) ?_
        refine b_icmp_ne C 163 dX9_changeLine_110 (by decide) (rfl : Int32.toInt (fo (i.toInt).toNat) = _) (show (5 : Int32).toInt = 5 by decide) (fun c23 => ?_) (fun c23 => ?_)
        · refine v_aload_n C 0 dX9_changeLine_163 rfl rfl ?_
          refine v_getr C 68 dX9_changeLine_164 fX9_88 (by omega) hM1.2.2.1 rfl rfl ?_
          refine v_iload_n C 1 dX9_changeLine_167 rfl rfl ?_
          refine v_ald (v := fo (i.toInt).toNat) C 89 dX9_changeLine_168 (by omega) h89 (ti_in (rfl : Int32.toInt i = _) (by omega) (by omega)) (by rw [ti_cl (rfl : Int32.toInt i = _)]) ?_
          refine v_bipush (v := 6) C dX9_changeLine_169 (by decide) ?_
          refine b_icmp_ne C 223 dX9_changeLine_171 (by decide) (rfl : Int32.toInt (fo (i.toInt).toNat) = _) (show (6 : Int32).toInt = 6 by decide) (fun c24 => ?_) (fun c24 => ?_)
          · refine v_aload_n C 0 dX9_changeLine_223 rfl rfl ?_
            refine v_getr C 68 dX9_changeLine_224 fX9_88 (by omega) hM1.2.2.1 rfl rfl ?_
            refine v_iload_n C 1 dX9_changeLine_227 rfl rfl ?_
            refine v_ald (v := fo (i.toInt).toNat) C 89 dX9_changeLine_228 (by omega) h89 (ti_in (rfl : Int32.toInt i = _) (by omega) (by omega)) (by rw [ti_cl (rfl : Int32.toInt i = _)]) ?_
            refine v_bipush (v := 7) C dX9_changeLine_229 (by decide) ?_
            refine b_icmp_ne C 277 dX9_changeLine_231 (by decide) (rfl : Int32.toInt (fo (i.toInt).toNat) = _) (show (7 : Int32).toInt = 7 by decide) (fun c25 => ?_) (fun c25 => ?_)
            · refine v_iconst (v := 0) C dX9_changeLine_277 (by decide) ?_
              exact v_ret C dX9_changeLine_278 rfl rfl ⟨Or.inr ⟨rfl, by omega⟩, _, _, h89, h90, hox, hJ⟩
            · refine v_iconst (v := 0) C dX9_changeLine_234 (by decide) ?_
              refine v_istore (lv' := [(0, .ref (ad 68)), (1, .int i), (2, .int u), (3, .int u), (4, .int 0)]) C [1, 2, 3, 4, 0] dX9_changeLine_235 (by decide) rfl ?_
              have LP26 : ∀ (t : Nat) (y27 : Int32) (y28 : Int32), ((0 : Int) ≤ y27.toInt ∧ y27.toInt ≤ 10) → ((0 : Int) ≤ y28.toInt ∧ y28.toInt ≤ 3) → (u.toInt ≤ y27.toInt + y28.toInt) → 4 - y28.toInt < (t : Int) → V X G A 5 (QI X G A (n) ad (fun r E' => ((r = 1 ∧ u.toInt ≤ 5) ∨ (r = 0 ∧ (0 : Int) ≤ 1)) ∧ ∃ fo' fx' : Nat → Int32, E' 89 = aI G 10 fo' ∧ E' 90 = aI G 10 fx' ∧ OXm fo' fx' m ∧ JY l Z kn G ad n ic md bd PT E0 E')) n ad 0 0 E 237 [(0, .ref (ad 68)), (1, .int i), (3, .int y27), (4, .int y28)] [] := by
                intro t34
                induction t34 with
                | zero => intro y27 y28 hy27 hy28 hq29 hm33; exfalso; omega
                | succ t34 ih32 =>
                  intro y27 y28 hy27 hy28 hq29 hm33
                  refine v_iload C 3 dX9_changeLine_237 rfl ?_
                  refine v_iconst (v := 3) C dX9_changeLine_239 (by decide) ?_
                  refine b_icmp_ge C 277 dX9_changeLine_240 (by decide) (rfl : Int32.toInt y28 = _) (show (3 : Int32).toInt = 3 by decide) (fun c35 => ?_) (fun c35 => ?_)
                  · refine v_iconst (v := 0) C dX9_changeLine_277 (by decide) ?_
                    exact v_ret C dX9_changeLine_278 rfl rfl ⟨Or.inr ⟨rfl, by omega⟩, _, _, h89, h90, hox, hJ⟩
                  · refine v_iload C 3 dX9_changeLine_243 rfl ?_
                    refine v_aload_n C 0 dX9_changeLine_245 rfl rfl ?_
                    refine v_getr C 68 dX9_changeLine_246 fX9_94 (by omega) hM1.2.2.1 rfl rfl ?_
                    refine v_iload_n C 1 dX9_changeLine_249 rfl rfl ?_
                    obtain ⟨f37, hE37, hb37⟩ := hJ.1.2.1.getA (b := 91) (by omega) rfl
                    refine v_ald (v := f37 (i.toInt).toNat) C 91 dX9_changeLine_250 (by omega) hE37 (ti_in (rfl : Int32.toInt i = _) (by omega) (by omega)) (by rw [ti_cl (rfl : Int32.toInt i = _)]) ?_
                    refine v_top (fun x38 _ => ?_)
                    refine b_icmp_eq C 271 dX9_changeLine_251 (by decide) (rfl : Int32.toInt y28 = _) (rfl : Int32.toInt x38 = _) (fun c39 => ?_) (fun c39 => ?_)
                    · obtain ⟨x40, ex40⟩ : ∃ y : Int32, y = y28 + 1 := ⟨_, rfl⟩
                      have hx40 : x40.toInt = (y28.toInt + 1) := by rw [ex40]; exact ti_add (rfl : Int32.toInt y28 = _) (show (1 : Int32).toInt = 1 by decide) (by omega) (by omega)
                      refine v_iinc (v := x40) (lv' := [(0, .ref (ad 68)), (1, .int i), (3, .int y27), (4, .int x40)]) C 3 [1, 2, 3, 0] dX9_changeLine_271 rfl (ex40.symm) (by decide) rfl ?_
                      refine v_goto C 237 dX9_changeLine_274 (by decide) ?_
                      exact ih32 y27 x40  (by have := hx40; omega) (by have := hx40; omega) (by have := hx40; omega) (by have := hx40; omega)
                    · refine v_iload_n C 2 dX9_changeLine_254 rfl rfl ?_
                      refine b_if_ne C 268 dX9_changeLine_255 (by decide) (rfl : Int32.toInt y27 = _) (fun c41 => ?_) (fun c41 => ?_)
                      · obtain ⟨x42, ex42⟩ : ∃ y : Int32, y = y27 + (-1) := ⟨_, rfl⟩
                        have hx42 : x42.toInt = (y27.toInt + (-1)) := by rw [ex42]; exact ti_add (rfl : Int32.toInt y27 = _) (show ((-1) : Int32).toInt = (-1) by decide) (by omega) (by omega)
                        refine v_iinc (v := x42) (lv' := [(0, .ref (ad 68)), (1, .int i), (3, .int x42), (4, .int y28)]) C 2 [1, 2, 0, 3] dX9_changeLine_268 rfl (ex42.symm) (by decide) rfl ?_
                        obtain ⟨x43, ex43⟩ : ∃ y : Int32, y = y28 + 1 := ⟨_, rfl⟩
                        have hx43 : x43.toInt = (y28.toInt + 1) := by rw [ex43]; exact ti_add (rfl : Int32.toInt y28 = _) (show (1 : Int32).toInt = 1 by decide) (by omega) (by omega)
                        refine v_iinc (v := x43) (lv' := [(0, .ref (ad 68)), (1, .int i), (3, .int x42), (4, .int x43)]) C 3 [1, 2, 3, 0] dX9_changeLine_271 rfl (ex43.symm) (by decide) rfl ?_
                        refine v_goto C 237 dX9_changeLine_274 (by decide) ?_
                        exact ih32 x42 x43  (by have := hx42; have := hx43; omega) (by have := hx42; have := hx43; omega) (by have := hx42; have := hx43; omega) (by have := hx42; have := hx43; omega)
                      · refine v_aload_n C 0 dX9_changeLine_258 rfl rfl ?_
                        refine v_getr C 68 dX9_changeLine_259 fX9_94 (by omega) hM1.2.2.1 rfl rfl ?_
                        refine v_iload_n C 1 dX9_changeLine_262 rfl rfl ?_
                        refine v_iload C 3 dX9_changeLine_263 rfl ?_
                        refine v_ast C 91 dX9_changeLine_265 (by omega) hE37 (ti_in (rfl : Int32.toInt i = _) (by omega) (by omega)) (fun E44 hE44_91 oE44 => ?_)
                        rw [ti_cl (rfl : Int32.toInt i = _)] at hE44_91
                        have hE44_89 := (oE44 89 (by decide)).trans h89
                        have hE44_90 := (oE44 90 (by decide)).trans h90
                        have hE44_68 := (oE44 68 (by decide)).trans hM1.2.2.1
                        have hJ45 := hJ.with (hJ.1.2.1.setA rfl (by unfold PT; omega) hb37 (ti_any y28) hE44_91 oE44) (oE44 68 (by decide)) (oE44 69 (by decide)) (oE44 70 (by decide)) (fun j _ _ => oE44 j (by omega))
                        have hM46 := hM1.of (oE44 68 (by decide)) (oE44 69 (by decide)) (oE44 70 (by decide))
                        refine v_iconst (v := 1) C dX9_changeLine_266 (by decide) ?_
                        exact v_ret C dX9_changeLine_267 rfl rfl ⟨Or.inl ⟨rfl, by omega⟩, _, _, hE44_89, hE44_90, hox, hJ45⟩
              refine v_sub (lv' := [(0, .ref (ad 68)), (1, .int i), (3, .int u), (4, .int 0)]) [0, 1, 3, 4] rfl ?_
              exact LP26 100000 u 0  (by have := (show (0 : Int32).toInt = 0 by decide); omega) (by have := (show (0 : Int32).toInt = 0 by decide); omega) (by have := (show (0 : Int32).toInt = 0 by decide); omega) (by have := (show (0 : Int32).toInt = 0 by decide); omega)
          · refine v_iload_n C 3 dX9_changeLine_174 rfl rfl ?_
            refine b_if_ne C 200 dX9_changeLine_175 (by decide) (rfl : Int32.toInt u = _) (fun c47 => ?_) (fun c47 => ?_)
            · refine v_iconst (v := 0) C dX9_changeLine_200 (by decide) ?_
              exact v_ret C dX9_changeLine_201 rfl rfl ⟨Or.inr ⟨rfl, by omega⟩, _, _, h89, h90, hox, hJ⟩
            · refine v_aload_n C 0 dX9_changeLine_178 rfl rfl ?_
              refine v_getr C 68 dX9_changeLine_179 fX9_91 (by omega) hM1.2.2.1 rfl rfl ?_
              refine v_iload_n C 1 dX9_changeLine_182 rfl rfl ?_
              refine v_ald (v := fx (i.toInt).toNat) C 90 dX9_changeLine_183 (by omega) h90 (ti_in (rfl : Int32.toInt i = _) (by omega) (by omega)) (by rw [ti_cl (rfl : Int32.toInt i = _)]) ?_
              refine v_sipush (v := 1440) C dX9_changeLine_184 (by decide) ?_
              refine v_imul C dX9_changeLine_187 ?_
              refine v_top (fun x48 _ => ?_)
              refine v_sipush (v := (-9999)) C dX9_changeLine_188 (by decide) ?_
              refine v_sipush (v := 9999) C dX9_changeLine_191 (by decide) ?_
              refine v_cSp C dX9_changeLine_194 lX9_131 mX9_within (ty_X9_within l G ad hJ.self x48 (-9999) 9999) ⟨by decide, by decide⟩ rfl (Nat.le_of_ble_eq_true rfl) ⟨Nat.zero_le _, Nat.zero_le _⟩ (fun r49 hp50 => ?_)
              have := (show ((-9999) : Int32).toInt = (-9999) by decide)
              have := (show (9999 : Int32).toInt = 9999 by decide)
              rcases hp50 with ⟨rfl, hp50⟩ | ⟨rfl, hp50⟩
              · refine b_if_ne C 202 dX9_changeLine_197 (by decide) (show (1 : Int32).toInt = 1 by decide) (fun c51 => ?_) (fun c51 => absurd c51 (by decide))
                refine v_aload_n C 0 dX9_changeLine_202 rfl rfl ?_
                refine v_getr C 68 dX9_changeLine_203 fX9_88 (by omega) hM1.2.2.1 rfl rfl ?_
                refine v_iload_n C 1 dX9_changeLine_206 rfl rfl ?_
                refine v_iconst (v := 5) C dX9_changeLine_207 (by decide) ?_
                refine v_ast C 89 dX9_changeLine_208 (by omega) h89 (ti_in (rfl : Int32.toInt i = _) (by omega) (by omega)) (fun E52 hE52_89 oE52 => ?_)
                rw [ti_cl (rfl : Int32.toInt i = _)] at hE52_89
                have hE52_90 := (oE52 90 (by decide)).trans h90
                have hE52_68 := (oE52 68 (by decide)).trans hM1.2.2.1
                have hJ53 := hJ.with (hJ.1.2.1.setA rfl (by unfold PT; omega) (fun q => ti_any (fo q)) (ti_any 5) hE52_89 oE52) (oE52 68 (by decide)) (oE52 69 (by decide)) (oE52 70 (by decide)) (fun j _ _ => oE52 j (by omega))
                have hM54 := hM1.of (oE52 68 (by decide)) (oE52 69 (by decide)) (oE52 70 (by decide))
                refine v_aload_n C 0 dX9_changeLine_209 rfl rfl ?_
                refine v_getr C 68 dX9_changeLine_210 fX9_91 (by omega) hM54.2.2.1 rfl rfl ?_
                refine v_iload_n C 1 dX9_changeLine_213 rfl rfl ?_
                refine v_dup2_11 C dX9_changeLine_214 rfl rfl ?_
                refine v_ald (v := fx (i.toInt).toNat) C 90 dX9_changeLine_215 (by omega) hE52_90 (ti_in (rfl : Int32.toInt i = _) (by omega) (by omega)) (by rw [ti_cl (rfl : Int32.toInt i = _)]) ?_
                refine v_sipush (v := 1440) C dX9_changeLine_216 (by decide) ?_
                refine v_imul C dX9_changeLine_219 ?_
                refine v_top (fun x55 _ => ?_)
                refine v_ast C 90 dX9_changeLine_220 (by omega) hE52_90 (ti_in (rfl : Int32.toInt i = _) (by omega) (by omega)) (fun E56 hE56_90 oE56 => ?_)
                rw [ti_cl (rfl : Int32.toInt i = _)] at hE56_90
                have hE56_68 := (oE56 68 (by decide)).trans hM54.2.2.1
                have hE56_89 := (oE56 89 (by decide)).trans hE52_89
                have hJ57 := hJ53.with (hJ53.1.2.1.setA rfl (by unfold PT; omega) (fun q => ti_any (fx q)) (ti_any x55) hE56_90 oE56) (oE56 68 (by decide)) (oE56 69 (by decide)) (oE56 70 (by decide)) (fun j _ _ => oE56 j (by omega))
                have hM58 := hM54.of (oE56 68 (by decide)) (oE56 69 (by decide)) (oE56 70 (by decide))
                refine v_iconst (v := 1) C dX9_changeLine_221 (by decide) ?_
                exact v_ret C dX9_changeLine_222 rfl rfl ⟨Or.inl ⟨rfl, by omega⟩, _, _, hE56_89, hE56_90, OXm_o hox (by decide), hJ57⟩
              · refine b_if_ne C 202 dX9_changeLine_197 (by decide) (show (0 : Int32).toInt = 0 by decide) (fun c59 => absurd c59 (by decide)) (fun c59 => ?_)
                refine v_iconst (v := 0) C dX9_changeLine_200 (by decide) ?_
                exact v_ret C dX9_changeLine_201 rfl rfl ⟨Or.inr ⟨rfl, by omega⟩, _, _, h89, h90, hox, hJ⟩
        · refine v_iload_n C 3 dX9_changeLine_113 rfl rfl ?_
          refine b_if_ne C 139 dX9_changeLine_114 (by decide) (rfl : Int32.toInt u = _) (fun c60 => ?_) (fun c60 => ?_)
          · refine v_iconst (v := 0) C dX9_changeLine_139 (by decide) ?_
            exact v_ret C dX9_changeLine_140 rfl rfl ⟨Or.inr ⟨rfl, by omega⟩, _, _, h89, h90, hox, hJ⟩
          · refine v_aload_n C 0 dX9_changeLine_117 rfl rfl ?_
            refine v_getr C 68 dX9_changeLine_118 fX9_91 (by omega) hM1.2.2.1 rfl rfl ?_
            refine v_iload_n C 1 dX9_changeLine_121 rfl rfl ?_
            refine v_ald (v := fx (i.toInt).toNat) C 90 dX9_changeLine_122 (by omega) h90 (ti_in (rfl : Int32.toInt i = _) (by omega) (by omega)) (by rw [ti_cl (rfl : Int32.toInt i = _)]) ?_
            refine b_if_eq C 139 dX9_changeLine_123 (by decide) (rfl : Int32.toInt (fx (i.toInt).toNat) = _) (fun c61 => ?_) (fun c61 => ?_)
            · refine v_iconst (v := 0) C dX9_changeLine_139 (by decide) ?_
              exact v_ret C dX9_changeLine_140 rfl rfl ⟨Or.inr ⟨rfl, by omega⟩, _, _, h89, h90, hox, hJ⟩
            · refine v_aload_n C 0 dX9_changeLine_126 rfl rfl ?_
              refine v_getr C 68 dX9_changeLine_127 fX9_91 (by omega) hM1.2.2.1 rfl rfl ?_
              refine v_iload_n C 1 dX9_changeLine_130 rfl rfl ?_
              refine v_ald (v := fx (i.toInt).toNat) C 90 dX9_changeLine_131 (by omega) h90 (ti_in (rfl : Int32.toInt i = _) (by omega) (by omega)) (by rw [ti_cl (rfl : Int32.toInt i = _)]) ?_
              refine v_sipush (v := 1440) C dX9_changeLine_132 (by decide) ?_
              refine v_irem C dX9_changeLine_135 (by decide) ?_
              refine v_top (fun x62 _ => ?_)
              refine b_if_eq C 141 dX9_changeLine_136 (by decide) (rfl : Int32.toInt x62 = _) (fun c63 => ?_) (fun c63 => ?_)
              · refine v_aload_n C 0 dX9_changeLine_141 rfl rfl ?_
                refine v_getr C 68 dX9_changeLine_142 fX9_88 (by omega) hM1.2.2.1 rfl rfl ?_
                refine v_iload_n C 1 dX9_changeLine_145 rfl rfl ?_
                refine v_bipush (v := 6) C dX9_changeLine_146 (by decide) ?_
                refine v_ast C 89 dX9_changeLine_148 (by omega) h89 (ti_in (rfl : Int32.toInt i = _) (by omega) (by omega)) (fun E64 hE64_89 oE64 => ?_)
                rw [ti_cl (rfl : Int32.toInt i = _)] at hE64_89
                have hE64_90 := (oE64 90 (by decide)).trans h90
                have hE64_68 := (oE64 68 (by decide)).trans hM1.2.2.1
                have hJ65 := hJ.with (hJ.1.2.1.setA rfl (by unfold PT; omega) (fun q => ti_any (fo q)) (ti_any 6) hE64_89 oE64) (oE64 68 (by decide)) (oE64 69 (by decide)) (oE64 70 (by decide)) (fun j _ _ => oE64 j (by omega))
                have hM66 := hM1.of (oE64 68 (by decide)) (oE64 69 (by decide)) (oE64 70 (by decide))
                refine v_aload_n C 0 dX9_changeLine_149 rfl rfl ?_
                refine v_getr C 68 dX9_changeLine_150 fX9_91 (by omega) hM66.2.2.1 rfl rfl ?_
                refine v_iload_n C 1 dX9_changeLine_153 rfl rfl ?_
                refine v_dup2_11 C dX9_changeLine_154 rfl rfl ?_
                refine v_ald (v := fx (i.toInt).toNat) C 90 dX9_changeLine_155 (by omega) hE64_90 (ti_in (rfl : Int32.toInt i = _) (by omega) (by omega)) (by rw [ti_cl (rfl : Int32.toInt i = _)]) ?_
                refine v_sipush (v := 1440) C dX9_changeLine_156 (by decide) ?_
                refine v_idiv C dX9_changeLine_159 (by decide) ?_
                refine v_top (fun x67 ex67 => ?_)
                have hx67 : (-1491308 : Int) ≤ x67.toInt ∧ x67.toInt ≤ 1491308 := by rw [ex67]; exact ti_tdb (show (1440 : Int32).toInt = 1440 by decide) (by decide)
                refine v_ast C 90 dX9_changeLine_160 (by omega) hE64_90 (ti_in (rfl : Int32.toInt i = _) (by omega) (by omega)) (fun E68 hE68_90 oE68 => ?_)
                rw [ti_cl (rfl : Int32.toInt i = _)] at hE68_90
                have hE68_68 := (oE68 68 (by decide)).trans hM66.2.2.1
                have hE68_89 := (oE68 89 (by decide)).trans hE64_89
                have hJ69 := hJ65.with (hJ65.1.2.1.setA rfl (by unfold PT; omega) (fun q => ti_any (fx q)) (ti_any x67) hE68_90 oE68) (oE68 68 (by decide)) (oE68 69 (by decide)) (oE68 70 (by decide)) (fun j _ _ => oE68 j (by omega))
                have hM70 := hM66.of (oE68 68 (by decide)) (oE68 69 (by decide)) (oE68 70 (by decide))
                refine v_iconst (v := 1) C dX9_changeLine_161 (by decide) ?_
                exact v_ret C dX9_changeLine_162 rfl rfl ⟨Or.inl ⟨rfl, by omega⟩, _, _, hE68_89, hE68_90, OXm_o hox (by decide), hJ69⟩
              · refine v_iconst (v := 0) C dX9_changeLine_139 (by decide) ?_
                exact v_ret C dX9_changeLine_140 rfl rfl ⟨Or.inr ⟨rfl, by omega⟩, _, _, h89, h90, hox, hJ⟩
      · refine v_iconst (v := 0) C dX9_changeLine_55 (by decide) ?_
        refine v_istore (lv' := [(0, .ref (ad 68)), (1, .int i), (2, .int u), (3, .int u), (4, .int 0)]) C [1, 2, 3, 4, 0] dX9_changeLine_56 (by decide) rfl ?_
        have LP71 : ∀ (t : Nat) (y72 : Int32) (y73 : Int32), ((0 : Int) ≤ y72.toInt ∧ y72.toInt ≤ 10) → ((0 : Int) ≤ y73.toInt ∧ y73.toInt ≤ 5) → (u.toInt ≤ y72.toInt + y73.toInt + 1) → 6 - y73.toInt < (t : Int) → V X G A 5 (QI X G A (n) ad (fun r E' => ((r = 1 ∧ u.toInt ≤ 5) ∨ (r = 0 ∧ (0 : Int) ≤ 1)) ∧ ∃ fo' fx' : Nat → Int32, E' 89 = aI G 10 fo' ∧ E' 90 = aI G 10 fx' ∧ OXm fo' fx' m ∧ JY l Z kn G ad n ic md bd PT E0 E')) n ad 0 0 E 58 [(0, .ref (ad 68)), (1, .int i), (3, .int y72), (4, .int y73)] [] := by
          intro t79
          induction t79 with
          | zero => intro y72 y73 hy72 hy73 hq74 hm78; exfalso; omega
          | succ t79 ih77 =>
            intro y72 y73 hy72 hy73 hq74 hm78
            refine v_iload C 3 dX9_changeLine_58 rfl ?_
            refine v_aload_n C 0 dX9_changeLine_60 rfl rfl ?_
            refine v_geti (v := im1 16) C 68 dX9_changeLine_61 fX9_135 (by omega) hM1.2.2.1 rfl rfl ?_
            have him1_16r : (bd 16).1 ≤ (im1 16).toInt ∧ (im1 16).toInt ≤ (bd 16).2 := hb1 16
            have him1_16 : (0 : Int) ≤ (im1 16).toInt ∧ (im1 16).toInt ≤ 5 := by omega
            refine b_icmp_ge C 101 dX9_changeLine_64 (by decide) (rfl : Int32.toInt y73 = _) (rfl : Int32.toInt (im1 16) = _) (fun c80 => ?_) (fun c80 => ?_)
            · refine v_iconst (v := 0) C dX9_changeLine_101 (by decide) ?_
              exact v_ret C dX9_changeLine_102 rfl rfl ⟨Or.inr ⟨rfl, by omega⟩, _, _, h89, h90, hox, hJ⟩
            · refine v_iload C 3 dX9_changeLine_67 rfl ?_
              refine v_aload_n C 0 dX9_changeLine_69 rfl rfl ?_
              refine v_getr C 68 dX9_changeLine_70 fX9_91 (by omega) hM1.2.2.1 rfl rfl ?_
              refine v_iload_n C 1 dX9_changeLine_73 rfl rfl ?_
              refine v_ald (v := fx (i.toInt).toNat) C 90 dX9_changeLine_74 (by omega) h90 (ti_in (rfl : Int32.toInt i = _) (by omega) (by omega)) (by rw [ti_cl (rfl : Int32.toInt i = _)]) ?_
              refine b_icmp_eq C 95 dX9_changeLine_75 (by decide) (rfl : Int32.toInt y73 = _) (rfl : Int32.toInt (fx (i.toInt).toNat) = _) (fun c81 => ?_) (fun c81 => ?_)
              · obtain ⟨x82, ex82⟩ : ∃ y : Int32, y = y73 + 1 := ⟨_, rfl⟩
                have hx82 : x82.toInt = (y73.toInt + 1) := by rw [ex82]; exact ti_add (rfl : Int32.toInt y73 = _) (show (1 : Int32).toInt = 1 by decide) (by omega) (by omega)
                refine v_iinc (v := x82) (lv' := [(0, .ref (ad 68)), (1, .int i), (3, .int y72), (4, .int x82)]) C 3 [1, 2, 3, 0] dX9_changeLine_95 rfl (ex82.symm) (by decide) rfl ?_
                refine v_goto C 58 dX9_changeLine_98 (by decide) ?_
                exact ih77 y72 x82  (by have := hx82; omega) (by have := hx82; omega) (by have := hx82; omega) (by have := hx82; omega)
              · refine v_iload_n C 2 dX9_changeLine_78 rfl rfl ?_
                refine b_if_ne C 92 dX9_changeLine_79 (by decide) (rfl : Int32.toInt y72 = _) (fun c83 => ?_) (fun c83 => ?_)
                · obtain ⟨x84, ex84⟩ : ∃ y : Int32, y = y72 + (-1) := ⟨_, rfl⟩
                  have hx84 : x84.toInt = (y72.toInt + (-1)) := by rw [ex84]; exact ti_add (rfl : Int32.toInt y72 = _) (show ((-1) : Int32).toInt = (-1) by decide) (by omega) (by omega)
                  refine v_iinc (v := x84) (lv' := [(0, .ref (ad 68)), (1, .int i), (3, .int x84), (4, .int y73)]) C 2 [1, 2, 0, 3] dX9_changeLine_92 rfl (ex84.symm) (by decide) rfl ?_
                  obtain ⟨x85, ex85⟩ : ∃ y : Int32, y = y73 + 1 := ⟨_, rfl⟩
                  have hx85 : x85.toInt = (y73.toInt + 1) := by rw [ex85]; exact ti_add (rfl : Int32.toInt y73 = _) (show (1 : Int32).toInt = 1 by decide) (by omega) (by omega)
                  refine v_iinc (v := x85) (lv' := [(0, .ref (ad 68)), (1, .int i), (3, .int x84), (4, .int x85)]) C 3 [1, 2, 3, 0] dX9_changeLine_95 rfl (ex85.symm) (by decide) rfl ?_
                  refine v_goto C 58 dX9_changeLine_98 (by decide) ?_
                  exact ih77 x84 x85  (by have := hx84; have := hx85; omega) (by have := hx84; have := hx85; omega) (by have := hx84; have := hx85; omega) (by have := hx84; have := hx85; omega)
                · refine v_aload_n C 0 dX9_changeLine_82 rfl rfl ?_
                  refine v_getr C 68 dX9_changeLine_83 fX9_91 (by omega) hM1.2.2.1 rfl rfl ?_
                  refine v_iload_n C 1 dX9_changeLine_86 rfl rfl ?_
                  refine v_iload C 3 dX9_changeLine_87 rfl ?_
                  refine v_ast C 90 dX9_changeLine_89 (by omega) h90 (ti_in (rfl : Int32.toInt i = _) (by omega) (by omega)) (fun E86 hE86_90 oE86 => ?_)
                  rw [ti_cl (rfl : Int32.toInt i = _)] at hE86_90
                  have hE86_89 := (oE86 89 (by decide)).trans h89
                  have hE86_68 := (oE86 68 (by decide)).trans hM1.2.2.1
                  have hJ87 := hJ.with (hJ.1.2.1.setA rfl (by unfold PT; omega) (fun q => ti_any (fx q)) (ti_any y73) hE86_90 oE86) (oE86 68 (by decide)) (oE86 69 (by decide)) (oE86 70 (by decide)) (fun j _ _ => oE86 j (by omega))
                  have hM88 := hM1.of (oE86 68 (by decide)) (oE86 69 (by decide)) (oE86 70 (by decide))
                  refine v_iconst (v := 1) C dX9_changeLine_90 (by decide) ?_
                  exact v_ret C dX9_changeLine_91 rfl rfl ⟨Or.inl ⟨rfl, by omega⟩, _, _, hE86_89, hE86_90, OXm_x hox (by omega), hJ87⟩
        refine v_sub (lv' := [(0, .ref (ad 68)), (1, .int i), (3, .int u), (4, .int 0)]) [0, 1, 3, 4] rfl ?_
        exact LP71 100000 u 0  (by have := (show (0 : Int32).toInt = 0 by decide); omega) (by have := (show (0 : Int32).toInt = 0 by decide); omega) (by have := (show (0 : Int32).toInt = 0 by decide); omega) (by have := (show (0 : Int32).toInt = 0 by decide); omega)
  · refine v_iload_n C 3 dX9_changeLine_12 rfl rfl ?_
    refine b_if_ne C 32 dX9_changeLine_13 (by decide) (rfl : Int32.toInt u = _) (fun c89 => ?_) (fun c89 => ?_)
    · obtain ⟨x90, ex90⟩ : ∃ y : Int32, y = u + (-1) := ⟨_, rfl⟩
      have hx90 : x90.toInt = (u.toInt + (-1)) := by rw [ex90]; exact ti_add (rfl : Int32.toInt u = _) (show ((-1) : Int32).toInt = (-1) by decide) (by omega) (by omega)
      refine v_iinc (v := x90) (lv' := [(0, .ref (ad 68)), (1, .int i), (2, .int u), (3, .int x90)]) C 3 [1, 2, 3, 0] dX9_changeLine_32 rfl (ex90.symm) (by decide) rfl ?_
      refine v_aload_n C 0 dX9_changeLine_35 rfl rfl ?_
      refine v_getr C 68 dX9_changeLine_36 fX9_88 (by omega) hM1.2.2.1 rfl rfl ?_
      refine v_iload_n C 1 dX9_changeLine_39 rfl rfl ?_
      refine v_ald (v := fo (i.toInt).toNat) C 89 dX9_changeLine_40 (by omega) h89 (ti_in (rfl : Int32.toInt i = _) (by omega) (by omega)) (by rw [ti_cl (rfl : Int32.toInt i = _)]) ?_
      refine v_iconst (v := 4) C dX9_changeLine_41 (by decide) ?_
      refine b_icmp_eq C 55 dX9_changeLine_42 (by decide) (rfl : Int32.toInt (fo (i.toInt).toNat) = _) (show (4 : Int32).toInt = 4 by decide) (fun c91 => ?_) (fun c91 => ?_)
      · refine v_iconst (v := 0) C dX9_changeLine_55 (by decide) ?_
        refine v_istore (lv' := [(0, .ref (ad 68)), (1, .int i), (2, .int u), (3, .int x90), (4, .int 0)]) C [1, 2, 3, 4, 0] dX9_changeLine_56 (by decide) rfl ?_
        have LP92 : ∀ (t : Nat) (y93 : Int32) (y94 : Int32), ((0 : Int) ≤ y93.toInt ∧ y93.toInt ≤ 10) → ((0 : Int) ≤ y94.toInt ∧ y94.toInt ≤ 5) → (u.toInt ≤ y93.toInt + y94.toInt + 1) → 6 - y94.toInt < (t : Int) → V X G A 5 (QI X G A (n) ad (fun r E' => ((r = 1 ∧ u.toInt ≤ 5) ∨ (r = 0 ∧ (0 : Int) ≤ 1)) ∧ ∃ fo' fx' : Nat → Int32, E' 89 = aI G 10 fo' ∧ E' 90 = aI G 10 fx' ∧ OXm fo' fx' m ∧ JY l Z kn G ad n ic md bd PT E0 E')) n ad 0 0 E 58 [(0, .ref (ad 68)), (1, .int i), (3, .int y93), (4, .int y94)] [] := by
          intro t100
          induction t100 with
          | zero => intro y93 y94 hy93 hy94 hq95 hm99; exfalso; omega
          | succ t100 ih98 =>
            intro y93 y94 hy93 hy94 hq95 hm99
            refine v_iload C 3 dX9_changeLine_58 rfl ?_
            refine v_aload_n C 0 dX9_changeLine_60 rfl rfl ?_
            refine v_geti (v := im1 16) C 68 dX9_changeLine_61 fX9_135 (by omega) hM1.2.2.1 rfl rfl ?_
            have him1_16r : (bd 16).1 ≤ (im1 16).toInt ∧ (im1 16).toInt ≤ (bd 16).2 := hb1 16
            have him1_16 : (0 : Int) ≤ (im1 16).toInt ∧ (im1 16).toInt ≤ 5 := by omega
            refine b_icmp_ge C 101 dX9_changeLine_64 (by decide) (rfl : Int32.toInt y94 = _) (rfl : Int32.toInt (im1 16) = _) (fun c101 => ?_) (fun c101 => ?_)
            · refine v_iconst (v := 0) C dX9_changeLine_101 (by decide) ?_
              exact v_ret C dX9_changeLine_102 rfl rfl ⟨Or.inr ⟨rfl, by omega⟩, _, _, h89, h90, hox, hJ⟩
            · refine v_iload C 3 dX9_changeLine_67 rfl ?_
              refine v_aload_n C 0 dX9_changeLine_69 rfl rfl ?_
              refine v_getr C 68 dX9_changeLine_70 fX9_91 (by omega) hM1.2.2.1 rfl rfl ?_
              refine v_iload_n C 1 dX9_changeLine_73 rfl rfl ?_
              refine v_ald (v := fx (i.toInt).toNat) C 90 dX9_changeLine_74 (by omega) h90 (ti_in (rfl : Int32.toInt i = _) (by omega) (by omega)) (by rw [ti_cl (rfl : Int32.toInt i = _)]) ?_
              refine b_icmp_eq C 95 dX9_changeLine_75 (by decide) (rfl : Int32.toInt y94 = _) (rfl : Int32.toInt (fx (i.toInt).toNat) = _) (fun c102 => ?_) (fun c102 => ?_)
              · obtain ⟨x103, ex103⟩ : ∃ y : Int32, y = y94 + 1 := ⟨_, rfl⟩
                have hx103 : x103.toInt = (y94.toInt + 1) := by rw [ex103]; exact ti_add (rfl : Int32.toInt y94 = _) (show (1 : Int32).toInt = 1 by decide) (by omega) (by omega)
                refine v_iinc (v := x103) (lv' := [(0, .ref (ad 68)), (1, .int i), (3, .int y93), (4, .int x103)]) C 3 [1, 2, 3, 0] dX9_changeLine_95 rfl (ex103.symm) (by decide) rfl ?_
                refine v_goto C 58 dX9_changeLine_98 (by decide) ?_
                exact ih98 y93 x103  (by have := hx103; omega) (by have := hx103; omega) (by have := hx103; omega) (by have := hx103; omega)
              · refine v_iload_n C 2 dX9_changeLine_78 rfl rfl ?_
                refine b_if_ne C 92 dX9_changeLine_79 (by decide) (rfl : Int32.toInt y93 = _) (fun c104 => ?_) (fun c104 => ?_)
                · obtain ⟨x105, ex105⟩ : ∃ y : Int32, y = y93 + (-1) := ⟨_, rfl⟩
                  have hx105 : x105.toInt = (y93.toInt + (-1)) := by rw [ex105]; exact ti_add (rfl : Int32.toInt y93 = _) (show ((-1) : Int32).toInt = (-1) by decide) (by omega) (by omega)
                  refine v_iinc (v := x105) (lv' := [(0, .ref (ad 68)), (1, .int i), (3, .int x105), (4, .int y94)]) C 2 [1, 2, 0, 3] dX9_changeLine_92 rfl (ex105.symm) (by decide) rfl ?_
                  obtain ⟨x106, ex106⟩ : ∃ y : Int32, y = y94 + 1 := ⟨_, rfl⟩
                  have hx106 : x106.toInt = (y94.toInt + 1) := by rw [ex106]; exact ti_add (rfl : Int32.toInt y94 = _) (show (1 : Int32).toInt = 1 by decide) (by omega) (by omega)
                  refine v_iinc (v := x106) (lv' := [(0, .ref (ad 68)), (1, .int i), (3, .int x105), (4, .int x106)]) C 3 [1, 2, 3, 0] dX9_changeLine_95 rfl (ex106.symm) (by decide) rfl ?_
                  refine v_goto C 58 dX9_changeLine_98 (by decide) ?_
                  exact ih98 x105 x106  (by have := hx105; have := hx106; omega) (by have := hx105; have := hx106; omega) (by have := hx105; have := hx106; omega) (by have := hx105; have := hx106; omega)
                · refine v_aload_n C 0 dX9_changeLine_82 rfl rfl ?_
                  refine v_getr C 68 dX9_changeLine_83 fX9_91 (by omega) hM1.2.2.1 rfl rfl ?_
                  refine v_iload_n C 1 dX9_changeLine_86 rfl rfl ?_
                  refine v_iload C 3 dX9_changeLine_87 rfl ?_
                  refine v_ast C 90 dX9_changeLine_89 (by omega) h90 (ti_in (rfl : Int32.toInt i = _) (by omega) (by omega)) (fun E107 hE107_90 oE107 => ?_)
                  rw [ti_cl (rfl : Int32.toInt i = _)] at hE107_90
                  have hE107_89 := (oE107 89 (by decide)).trans h89
                  have hE107_68 := (oE107 68 (by decide)).trans hM1.2.2.1
                  have hJ108 := hJ.with (hJ.1.2.1.setA rfl (by unfold PT; omega) (fun q => ti_any (fx q)) (ti_any y94) hE107_90 oE107) (oE107 68 (by decide)) (oE107 69 (by decide)) (oE107 70 (by decide)) (fun j _ _ => oE107 j (by omega))
                  have hM109 := hM1.of (oE107 68 (by decide)) (oE107 69 (by decide)) (oE107 70 (by decide))
                  refine v_iconst (v := 1) C dX9_changeLine_90 (by decide) ?_
                  exact v_ret C dX9_changeLine_91 rfl rfl ⟨Or.inl ⟨rfl, by omega⟩, _, _, hE107_89, hE107_90, OXm_x hox (by omega), hJ108⟩
        refine v_sub (lv' := [(0, .ref (ad 68)), (1, .int i), (3, .int x90), (4, .int 0)]) [0, 1, 3, 4] rfl ?_
        exact LP92 100000 x90 0  (by have := hx90; have := (show (0 : Int32).toInt = 0 by decide); omega) (by have := hx90; have := (show (0 : Int32).toInt = 0 by decide); omega) (by have := hx90; have := (show (0 : Int32).toInt = 0 by decide); omega) (by have := hx90; have := (show (0 : Int32).toInt = 0 by decide); omega)
      · refine v_aload_n C 0 dX9_changeLine_45 rfl rfl ?_
        refine v_getr C 68 dX9_changeLine_46 fX9_88 (by omega) hM1.2.2.1 rfl rfl ?_
        refine v_iload_n C 1 dX9_changeLine_49 rfl rfl ?_
        refine v_ald (v := fo (i.toInt).toNat) C 89 dX9_changeLine_50 (by omega) h89 (ti_in (rfl : Int32.toInt i = _) (by omega) (by omega)) (by rw [ti_cl (rfl : Int32.toInt i = _)]) ?_
        refine v_iconst (v := 1) C dX9_changeLine_51 (by decide) ?_
        refine b_icmp_ne C 103 dX9_changeLine_52 (by decide) (rfl : Int32.toInt (fo (i.toInt).toNat) = _) (show (1 : Int32).toInt = 1 by decide) (fun c110 => ?_) (fun c110 => ?_)
        · refine v_aload_n C 0 dX9_changeLine_103 rfl rfl ?_
          refine v_getr C 68 dX9_changeLine_104 fX9_88 (by omega) hM1.2.2.1 rfl rfl ?_
          refine v_iload_n C 1 dX9_changeLine_107 rfl rfl ?_
          refine v_ald (v := fo (i.toInt).toNat) C 89 dX9_changeLine_108 (by omega) h89 (ti_in (rfl : Int32.toInt i = _) (by omega) (by omega)) (by rw [ti_cl (rfl : Int32.toInt i = _)]) ?_
          refine v_iconst (v := 5) C dX9_changeLine_109 (by decide) ?_
          refine b_icmp_ne C 163 dX9_changeLine_110 (by decide) (rfl : Int32.toInt (fo (i.toInt).toNat) = _) (show (5 : Int32).toInt = 5 by decide) (fun c111 => ?_) (fun c111 => ?_)
          · refine v_aload_n C 0 dX9_changeLine_163 rfl rfl ?_
            refine v_getr C 68 dX9_changeLine_164 fX9_88 (by omega) hM1.2.2.1 rfl rfl ?_
            refine v_iload_n C 1 dX9_changeLine_167 rfl rfl ?_
            refine v_ald (v := fo (i.toInt).toNat) C 89 dX9_changeLine_168 (by omega) h89 (ti_in (rfl : Int32.toInt i = _) (by omega) (by omega)) (by rw [ti_cl (rfl : Int32.toInt i = _)]) ?_
            refine v_bipush (v := 6) C dX9_changeLine_169 (by decide) ?_
            refine b_icmp_ne C 223 dX9_changeLine_171 (by decide) (rfl : Int32.toInt (fo (i.toInt).toNat) = _) (show (6 : Int32).toInt = 6 by decide) (fun c112 => ?_) (fun c112 => ?_)
            · refine v_aload_n C 0 dX9_changeLine_223 rfl rfl ?_
              refine v_getr C 68 dX9_changeLine_224 fX9_88 (by omega) hM1.2.2.1 rfl rfl ?_
              refine v_iload_n C 1 dX9_changeLine_227 rfl rfl ?_
              refine v_ald (v := fo (i.toInt).toNat) C 89 dX9_changeLine_228 (by omega) h89 (ti_in (rfl : Int32.toInt i = _) (by omega) (by omega)) (by rw [ti_cl (rfl : Int32.toInt i = _)]) ?_
              refine v_bipush (v := 7) C dX9_changeLine_229 (by decide) ?_
              refine b_icmp_ne C 277 dX9_changeLine_231 (by decide) (rfl : Int32.toInt (fo (i.toInt).toNat) = _) (show (7 : Int32).toInt = 7 by decide) (fun c113 => ?_) (fun c113 => ?_)
              · refine v_iconst (v := 0) C dX9_changeLine_277 (by decide) ?_
                exact v_ret C dX9_changeLine_278 rfl rfl ⟨Or.inr ⟨rfl, by omega⟩, _, _, h89, h90, hox, hJ⟩
              · refine v_iconst (v := 0) C dX9_changeLine_234 (by decide) ?_
                refine v_istore (lv' := [(0, .ref (ad 68)), (1, .int i), (2, .int u), (3, .int x90), (4, .int 0)]) C [1, 2, 3, 4, 0] dX9_changeLine_235 (by decide) rfl ?_
                have LP114 : ∀ (t : Nat) (y115 : Int32) (y116 : Int32), ((0 : Int) ≤ y115.toInt ∧ y115.toInt ≤ 10) → ((0 : Int) ≤ y116.toInt ∧ y116.toInt ≤ 3) → (u.toInt ≤ y115.toInt + y116.toInt) → 4 - y116.toInt < (t : Int) → V X G A 5 (QI X G A (n) ad (fun r E' => ((r = 1 ∧ u.toInt ≤ 5) ∨ (r = 0 ∧ (0 : Int) ≤ 1)) ∧ ∃ fo' fx' : Nat → Int32, E' 89 = aI G 10 fo' ∧ E' 90 = aI G 10 fx' ∧ OXm fo' fx' m ∧ JY l Z kn G ad n ic md bd PT E0 E')) n ad 0 0 E 237 [(0, .ref (ad 68)), (1, .int i), (3, .int y115), (4, .int y116)] [] := by
                  intro t122
                  induction t122 with
                  | zero => intro y115 y116 hy115 hy116 hq117 hm121; exfalso; omega
                  | succ t122 ih120 =>
                    intro y115 y116 hy115 hy116 hq117 hm121
                    refine v_iload C 3 dX9_changeLine_237 rfl ?_
                    refine v_iconst (v := 3) C dX9_changeLine_239 (by decide) ?_
                    refine b_icmp_ge C 277 dX9_changeLine_240 (by decide) (rfl : Int32.toInt y116 = _) (show (3 : Int32).toInt = 3 by decide) (fun c123 => ?_) (fun c123 => ?_)
                    · refine v_iconst (v := 0) C dX9_changeLine_277 (by decide) ?_
                      exact v_ret C dX9_changeLine_278 rfl rfl ⟨Or.inr ⟨rfl, by omega⟩, _, _, h89, h90, hox, hJ⟩
                    · refine v_iload C 3 dX9_changeLine_243 rfl ?_
                      refine v_aload_n C 0 dX9_changeLine_245 rfl rfl ?_
                      refine v_getr C 68 dX9_changeLine_246 fX9_94 (by omega) hM1.2.2.1 rfl rfl ?_
                      refine v_iload_n C 1 dX9_changeLine_249 rfl rfl ?_
                      obtain ⟨f125, hE125, hb125⟩ := hJ.1.2.1.getA (b := 91) (by omega) rfl
                      refine v_ald (v := f125 (i.toInt).toNat) C 91 dX9_changeLine_250 (by omega) hE125 (ti_in (rfl : Int32.toInt i = _) (by omega) (by omega)) (by rw [ti_cl (rfl : Int32.toInt i = _)]) ?_
                      refine v_top (fun x126 _ => ?_)
                      refine b_icmp_eq C 271 dX9_changeLine_251 (by decide) (rfl : Int32.toInt y116 = _) (rfl : Int32.toInt x126 = _) (fun c127 => ?_) (fun c127 => ?_)
                      · obtain ⟨x128, ex128⟩ : ∃ y : Int32, y = y116 + 1 := ⟨_, rfl⟩
                        have hx128 : x128.toInt = (y116.toInt + 1) := by rw [ex128]; exact ti_add (rfl : Int32.toInt y116 = _) (show (1 : Int32).toInt = 1 by decide) (by omega) (by omega)
                        refine v_iinc (v := x128) (lv' := [(0, .ref (ad 68)), (1, .int i), (3, .int y115), (4, .int x128)]) C 3 [1, 2, 3, 0] dX9_changeLine_271 rfl (ex128.symm) (by decide) rfl ?_
                        refine v_goto C 237 dX9_changeLine_274 (by decide) ?_
                        exact ih120 y115 x128  (by have := hx128; omega) (by have := hx128; omega) (by have := hx128; omega) (by have := hx128; omega)
                      · refine v_iload_n C 2 dX9_changeLine_254 rfl rfl ?_
                        refine b_if_ne C 268 dX9_changeLine_255 (by decide) (rfl : Int32.toInt y115 = _) (fun c129 => ?_) (fun c129 => ?_)
                        · obtain ⟨x130, ex130⟩ : ∃ y : Int32, y = y115 + (-1) := ⟨_, rfl⟩
                          have hx130 : x130.toInt = (y115.toInt + (-1)) := by rw [ex130]; exact ti_add (rfl : Int32.toInt y115 = _) (show ((-1) : Int32).toInt = (-1) by decide) (by omega) (by omega)
                          refine v_iinc (v := x130) (lv' := [(0, .ref (ad 68)), (1, .int i), (3, .int x130), (4, .int y116)]) C 2 [1, 2, 0, 3] dX9_changeLine_268 rfl (ex130.symm) (by decide) rfl ?_
                          obtain ⟨x131, ex131⟩ : ∃ y : Int32, y = y116 + 1 := ⟨_, rfl⟩
                          have hx131 : x131.toInt = (y116.toInt + 1) := by rw [ex131]; exact ti_add (rfl : Int32.toInt y116 = _) (show (1 : Int32).toInt = 1 by decide) (by omega) (by omega)
                          refine v_iinc (v := x131) (lv' := [(0, .ref (ad 68)), (1, .int i), (3, .int x130), (4, .int x131)]) C 3 [1, 2, 3, 0] dX9_changeLine_271 rfl (ex131.symm) (by decide) rfl ?_
                          refine v_goto C 237 dX9_changeLine_274 (by decide) ?_
                          exact ih120 x130 x131  (by have := hx130; have := hx131; omega) (by have := hx130; have := hx131; omega) (by have := hx130; have := hx131; omega) (by have := hx130; have := hx131; omega)
                        · refine v_aload_n C 0 dX9_changeLine_258 rfl rfl ?_
                          refine v_getr C 68 dX9_changeLine_259 fX9_94 (by omega) hM1.2.2.1 rfl rfl ?_
                          refine v_iload_n C 1 dX9_changeLine_262 rfl rfl ?_
                          refine v_iload C 3 dX9_changeLine_263 rfl ?_
                          refine v_ast C 91 dX9_changeLine_265 (by omega) hE125 (ti_in (rfl : Int32.toInt i = _) (by omega) (by omega)) (fun E132 hE132_91 oE132 => ?_)
                          rw [ti_cl (rfl : Int32.toInt i = _)] at hE132_91
                          have hE132_89 := (oE132 89 (by decide)).trans h89
                          have hE132_90 := (oE132 90 (by decide)).trans h90
                          have hE132_68 := (oE132 68 (by decide)).trans hM1.2.2.1
                          have hJ133 := hJ.with (hJ.1.2.1.setA rfl (by unfold PT; omega) hb125 (ti_any y116) hE132_91 oE132) (oE132 68 (by decide)) (oE132 69 (by decide)) (oE132 70 (by decide)) (fun j _ _ => oE132 j (by omega))
                          have hM134 := hM1.of (oE132 68 (by decide)) (oE132 69 (by decide)) (oE132 70 (by decide))
                          refine v_iconst (v := 1) C dX9_changeLine_266 (by decide) ?_
                          exact v_ret C dX9_changeLine_267 rfl rfl ⟨Or.inl ⟨rfl, by omega⟩, _, _, hE132_89, hE132_90, hox, hJ133⟩
                refine v_sub (lv' := [(0, .ref (ad 68)), (1, .int i), (3, .int x90), (4, .int 0)]) [0, 1, 3, 4] rfl ?_
                exact LP114 100000 x90 0  (by have := hx90; have := (show (0 : Int32).toInt = 0 by decide); omega) (by have := hx90; have := (show (0 : Int32).toInt = 0 by decide); omega) (by have := hx90; have := (show (0 : Int32).toInt = 0 by decide); omega) (by have := hx90; have := (show (0 : Int32).toInt = 0 by decide); omega)
            · refine v_iload_n C 3 dX9_changeLine_174 rfl rfl ?_
              refine b_if_ne C 200 dX9_changeLine_175 (by decide) hx90 (fun c135 => ?_) (fun c135 => ?_)
              · refine v_iconst (v := 0) C dX9_changeLine_200 (by decide) ?_
                exact v_ret C dX9_changeLine_201 rfl rfl ⟨Or.inr ⟨rfl, by omega⟩, _, _, h89, h90, hox, hJ⟩
              · refine v_aload_n C 0 dX9_changeLine_178 rfl rfl ?_
                refine v_getr C 68 dX9_changeLine_179 fX9_91 (by omega) hM1.2.2.1 rfl rfl ?_
                refine v_iload_n C 1 dX9_changeLine_182 rfl rfl ?_
                refine v_ald (v := fx (i.toInt).toNat) C 90 dX9_changeLine_183 (by omega) h90 (ti_in (rfl : Int32.toInt i = _) (by omega) (by omega)) (by rw [ti_cl (rfl : Int32.toInt i = _)]) ?_
                refine v_sipush (v := 1440) C dX9_changeLine_184 (by decide) ?_
                refine v_imul C dX9_changeLine_187 ?_
                refine v_top (fun x136 _ => ?_)
                refine v_sipush (v := (-9999)) C dX9_changeLine_188 (by decide) ?_
                refine v_sipush (v := 9999) C dX9_changeLine_191 (by decide) ?_
                refine v_cSp C dX9_changeLine_194 lX9_131 mX9_within (ty_X9_within l G ad hJ.self x136 (-9999) 9999) ⟨by decide, by decide⟩ rfl (Nat.le_of_ble_eq_true rfl) ⟨Nat.zero_le _, Nat.zero_le _⟩ (fun r137 hp138 => ?_)
                have := (show ((-9999) : Int32).toInt = (-9999) by decide)
                have := (show (9999 : Int32).toInt = 9999 by decide)
                rcases hp138 with ⟨rfl, hp138⟩ | ⟨rfl, hp138⟩
                · refine b_if_ne C 202 dX9_changeLine_197 (by decide) (show (1 : Int32).toInt = 1 by decide) (fun c139 => ?_) (fun c139 => absurd c139 (by decide))
                  refine v_aload_n C 0 dX9_changeLine_202 rfl rfl ?_
                  refine v_getr C 68 dX9_changeLine_203 fX9_88 (by omega) hM1.2.2.1 rfl rfl ?_
                  refine v_iload_n C 1 dX9_changeLine_206 rfl rfl ?_
                  refine v_iconst (v := 5) C dX9_changeLine_207 (by decide) ?_
                  refine v_ast C 89 dX9_changeLine_208 (by omega) h89 (ti_in (rfl : Int32.toInt i = _) (by omega) (by omega)) (fun E140 hE140_89 oE140 => ?_)
                  rw [ti_cl (rfl : Int32.toInt i = _)] at hE140_89
                  have hE140_90 := (oE140 90 (by decide)).trans h90
                  have hE140_68 := (oE140 68 (by decide)).trans hM1.2.2.1
                  have hJ141 := hJ.with (hJ.1.2.1.setA rfl (by unfold PT; omega) (fun q => ti_any (fo q)) (ti_any 5) hE140_89 oE140) (oE140 68 (by decide)) (oE140 69 (by decide)) (oE140 70 (by decide)) (fun j _ _ => oE140 j (by omega))
                  have hM142 := hM1.of (oE140 68 (by decide)) (oE140 69 (by decide)) (oE140 70 (by decide))
                  refine v_aload_n C 0 dX9_changeLine_209 rfl rfl ?_
                  refine v_getr C 68 dX9_changeLine_210 fX9_91 (by omega) hM142.2.2.1 rfl rfl ?_
                  refine v_iload_n C 1 dX9_changeLine_213 rfl rfl ?_
                  refine v_dup2_11 C dX9_changeLine_214 rfl rfl ?_
                  refine v_ald (v := fx (i.toInt).toNat) C 90 dX9_changeLine_215 (by omega) hE140_90 (ti_in (rfl : Int32.toInt i = _) (by omega) (by omega)) (by rw [ti_cl (rfl : Int32.toInt i = _)]) ?_
                  refine v_sipush (v := 1440) C dX9_changeLine_216 (by decide) ?_
                  refine v_imul C dX9_changeLine_219 ?_
                  refine v_top (fun x143 _ => ?_)
                  refine v_ast C 90 dX9_changeLine_220 (by omega) hE140_90 (ti_in (rfl : Int32.toInt i = _) (by omega) (by omega)) (fun E144 hE144_90 oE144 => ?_)
                  rw [ti_cl (rfl : Int32.toInt i = _)] at hE144_90
                  have hE144_68 := (oE144 68 (by decide)).trans hM142.2.2.1
                  have hE144_89 := (oE144 89 (by decide)).trans hE140_89
                  have hJ145 := hJ141.with (hJ141.1.2.1.setA rfl (by unfold PT; omega) (fun q => ti_any (fx q)) (ti_any x143) hE144_90 oE144) (oE144 68 (by decide)) (oE144 69 (by decide)) (oE144 70 (by decide)) (fun j _ _ => oE144 j (by omega))
                  have hM146 := hM142.of (oE144 68 (by decide)) (oE144 69 (by decide)) (oE144 70 (by decide))
                  refine v_iconst (v := 1) C dX9_changeLine_221 (by decide) ?_
                  exact v_ret C dX9_changeLine_222 rfl rfl ⟨Or.inl ⟨rfl, by omega⟩, _, _, hE144_89, hE144_90, OXm_o hox (by decide), hJ145⟩
                · refine b_if_ne C 202 dX9_changeLine_197 (by decide) (show (0 : Int32).toInt = 0 by decide) (fun c147 => absurd c147 (by decide)) (fun c147 => ?_)
                  refine v_iconst (v := 0) C dX9_changeLine_200 (by decide) ?_
                  exact v_ret C dX9_changeLine_201 rfl rfl ⟨Or.inr ⟨rfl, by omega⟩, _, _, h89, h90, hox, hJ⟩
          · refine v_iload_n C 3 dX9_changeLine_113 rfl rfl ?_
            refine b_if_ne C 139 dX9_changeLine_114 (by decide) hx90 (fun c148 => ?_) (fun c148 => ?_)
            · refine v_iconst (v := 0) C dX9_changeLine_139 (by decide) ?_
              exact v_ret C dX9_changeLine_140 rfl rfl ⟨Or.inr ⟨rfl, by omega⟩, _, _, h89, h90, hox, hJ⟩
            · refine v_aload_n C 0 dX9_changeLine_117 rfl rfl ?_
              refine v_getr C 68 dX9_changeLine_118 fX9_91 (by omega) hM1.2.2.1 rfl rfl ?_
              refine v_iload_n C 1 dX9_changeLine_121 rfl rfl ?_
              refine v_ald (v := fx (i.toInt).toNat) C 90 dX9_changeLine_122 (by omega) h90 (ti_in (rfl : Int32.toInt i = _) (by omega) (by omega)) (by rw [ti_cl (rfl : Int32.toInt i = _)]) ?_
              refine b_if_eq C 139 dX9_changeLine_123 (by decide) (rfl : Int32.toInt (fx (i.toInt).toNat) = _) (fun c149 => ?_) (fun c149 => ?_)
              · refine v_iconst (v := 0) C dX9_changeLine_139 (by decide) ?_
                exact v_ret C dX9_changeLine_140 rfl rfl ⟨Or.inr ⟨rfl, by omega⟩, _, _, h89, h90, hox, hJ⟩
              · refine v_aload_n C 0 dX9_changeLine_126 rfl rfl ?_
                refine v_getr C 68 dX9_changeLine_127 fX9_91 (by omega) hM1.2.2.1 rfl rfl ?_
                refine v_iload_n C 1 dX9_changeLine_130 rfl rfl ?_
                refine v_ald (v := fx (i.toInt).toNat) C 90 dX9_changeLine_131 (by omega) h90 (ti_in (rfl : Int32.toInt i = _) (by omega) (by omega)) (by rw [ti_cl (rfl : Int32.toInt i = _)]) ?_
                refine v_sipush (v := 1440) C dX9_changeLine_132 (by decide) ?_
                refine v_irem C dX9_changeLine_135 (by decide) ?_
                refine v_top (fun x150 _ => ?_)
                refine b_if_eq C 141 dX9_changeLine_136 (by decide) (rfl : Int32.toInt x150 = _) (fun c151 => ?_) (fun c151 => ?_)
                · refine v_aload_n C 0 dX9_changeLine_141 rfl rfl ?_
                  refine v_getr C 68 dX9_changeLine_142 fX9_88 (by omega) hM1.2.2.1 rfl rfl ?_
                  refine v_iload_n C 1 dX9_changeLine_145 rfl rfl ?_
                  refine v_bipush (v := 6) C dX9_changeLine_146 (by decide) ?_
                  refine v_ast C 89 dX9_changeLine_148 (by omega) h89 (ti_in (rfl : Int32.toInt i = _) (by omega) (by omega)) (fun E152 hE152_89 oE152 => ?_)
                  rw [ti_cl (rfl : Int32.toInt i = _)] at hE152_89
                  have hE152_90 := (oE152 90 (by decide)).trans h90
                  have hE152_68 := (oE152 68 (by decide)).trans hM1.2.2.1
                  have hJ153 := hJ.with (hJ.1.2.1.setA rfl (by unfold PT; omega) (fun q => ti_any (fo q)) (ti_any 6) hE152_89 oE152) (oE152 68 (by decide)) (oE152 69 (by decide)) (oE152 70 (by decide)) (fun j _ _ => oE152 j (by omega))
                  have hM154 := hM1.of (oE152 68 (by decide)) (oE152 69 (by decide)) (oE152 70 (by decide))
                  refine v_aload_n C 0 dX9_changeLine_149 rfl rfl ?_
                  refine v_getr C 68 dX9_changeLine_150 fX9_91 (by omega) hM154.2.2.1 rfl rfl ?_
                  refine v_iload_n C 1 dX9_changeLine_153 rfl rfl ?_
                  refine v_dup2_11 C dX9_changeLine_154 rfl rfl ?_
                  refine v_ald (v := fx (i.toInt).toNat) C 90 dX9_changeLine_155 (by omega) hE152_90 (ti_in (rfl : Int32.toInt i = _) (by omega) (by omega)) (by rw [ti_cl (rfl : Int32.toInt i = _)]) ?_
                  refine v_sipush (v := 1440) C dX9_changeLine_156 (by decide) ?_
                  refine v_idiv C dX9_changeLine_159 (by decide) ?_
                  refine v_top (fun x155 ex155 => ?_)
                  have hx155 : (-1491308 : Int) ≤ x155.toInt ∧ x155.toInt ≤ 1491308 := by rw [ex155]; exact ti_tdb (show (1440 : Int32).toInt = 1440 by decide) (by decide)
                  refine v_ast C 90 dX9_changeLine_160 (by omega) hE152_90 (ti_in (rfl : Int32.toInt i = _) (by omega) (by omega)) (fun E156 hE156_90 oE156 => ?_)
                  rw [ti_cl (rfl : Int32.toInt i = _)] at hE156_90
                  have hE156_68 := (oE156 68 (by decide)).trans hM154.2.2.1
                  have hE156_89 := (oE156 89 (by decide)).trans hE152_89
                  have hJ157 := hJ153.with (hJ153.1.2.1.setA rfl (by unfold PT; omega) (fun q => ti_any (fx q)) (ti_any x155) hE156_90 oE156) (oE156 68 (by decide)) (oE156 69 (by decide)) (oE156 70 (by decide)) (fun j _ _ => oE156 j (by omega))
                  have hM158 := hM154.of (oE156 68 (by decide)) (oE156 69 (by decide)) (oE156 70 (by decide))
                  refine v_iconst (v := 1) C dX9_changeLine_161 (by decide) ?_
                  exact v_ret C dX9_changeLine_162 rfl rfl ⟨Or.inl ⟨rfl, by omega⟩, _, _, hE156_89, hE156_90, OXm_o hox (by decide), hJ157⟩
                · refine v_iconst (v := 0) C dX9_changeLine_139 (by decide) ?_
                  exact v_ret C dX9_changeLine_140 rfl rfl ⟨Or.inr ⟨rfl, by omega⟩, _, _, h89, h90, hox, hJ⟩
        · refine v_iconst (v := 0) C dX9_changeLine_55 (by decide) ?_
          refine v_istore (lv' := [(0, .ref (ad 68)), (1, .int i), (2, .int u), (3, .int x90), (4, .int 0)]) C [1, 2, 3, 4, 0] dX9_changeLine_56 (by decide) rfl ?_
          have LP159 : ∀ (t : Nat) (y160 : Int32) (y161 : Int32), ((0 : Int) ≤ y160.toInt ∧ y160.toInt ≤ 10) → ((0 : Int) ≤ y161.toInt ∧ y161.toInt ≤ 5) → (u.toInt ≤ y160.toInt + y161.toInt + 1) → 6 - y161.toInt < (t : Int) → V X G A 5 (QI X G A (n) ad (fun r E' => ((r = 1 ∧ u.toInt ≤ 5) ∨ (r = 0 ∧ (0 : Int) ≤ 1)) ∧ ∃ fo' fx' : Nat → Int32, E' 89 = aI G 10 fo' ∧ E' 90 = aI G 10 fx' ∧ OXm fo' fx' m ∧ JY l Z kn G ad n ic md bd PT E0 E')) n ad 0 0 E 58 [(0, .ref (ad 68)), (1, .int i), (3, .int y160), (4, .int y161)] [] := by
            intro t167
            induction t167 with
            | zero => intro y160 y161 hy160 hy161 hq162 hm166; exfalso; omega
            | succ t167 ih165 =>
              intro y160 y161 hy160 hy161 hq162 hm166
              refine v_iload C 3 dX9_changeLine_58 rfl ?_
              refine v_aload_n C 0 dX9_changeLine_60 rfl rfl ?_
              refine v_geti (v := im1 16) C 68 dX9_changeLine_61 fX9_135 (by omega) hM1.2.2.1 rfl rfl ?_
              have him1_16r : (bd 16).1 ≤ (im1 16).toInt ∧ (im1 16).toInt ≤ (bd 16).2 := hb1 16
              have him1_16 : (0 : Int) ≤ (im1 16).toInt ∧ (im1 16).toInt ≤ 5 := by omega
              refine b_icmp_ge C 101 dX9_changeLine_64 (by decide) (rfl : Int32.toInt y161 = _) (rfl : Int32.toInt (im1 16) = _) (fun c168 => ?_) (fun c168 => ?_)
              · refine v_iconst (v := 0) C dX9_changeLine_101 (by decide) ?_
                exact v_ret C dX9_changeLine_102 rfl rfl ⟨Or.inr ⟨rfl, by omega⟩, _, _, h89, h90, hox, hJ⟩
              · refine v_iload C 3 dX9_changeLine_67 rfl ?_
                refine v_aload_n C 0 dX9_changeLine_69 rfl rfl ?_
                refine v_getr C 68 dX9_changeLine_70 fX9_91 (by omega) hM1.2.2.1 rfl rfl ?_
                refine v_iload_n C 1 dX9_changeLine_73 rfl rfl ?_
                refine v_ald (v := fx (i.toInt).toNat) C 90 dX9_changeLine_74 (by omega) h90 (ti_in (rfl : Int32.toInt i = _) (by omega) (by omega)) (by rw [ti_cl (rfl : Int32.toInt i = _)]) ?_
                refine b_icmp_eq C 95 dX9_changeLine_75 (by decide) (rfl : Int32.toInt y161 = _) (rfl : Int32.toInt (fx (i.toInt).toNat) = _) (fun c169 => ?_) (fun c169 => ?_)
                · obtain ⟨x170, ex170⟩ : ∃ y : Int32, y = y161 + 1 := ⟨_, rfl⟩
                  have hx170 : x170.toInt = (y161.toInt + 1) := by rw [ex170]; exact ti_add (rfl : Int32.toInt y161 = _) (show (1 : Int32).toInt = 1 by decide) (by omega) (by omega)
                  refine v_iinc (v := x170) (lv' := [(0, .ref (ad 68)), (1, .int i), (3, .int y160), (4, .int x170)]) C 3 [1, 2, 3, 0] dX9_changeLine_95 rfl (ex170.symm) (by decide) rfl ?_
                  refine v_goto C 58 dX9_changeLine_98 (by decide) ?_
                  exact ih165 y160 x170  (by have := hx170; omega) (by have := hx170; omega) (by have := hx170; omega) (by have := hx170; omega)
                · refine v_iload_n C 2 dX9_changeLine_78 rfl rfl ?_
                  refine b_if_ne C 92 dX9_changeLine_79 (by decide) (rfl : Int32.toInt y160 = _) (fun c171 => ?_) (fun c171 => ?_)
                  · obtain ⟨x172, ex172⟩ : ∃ y : Int32, y = y160 + (-1) := ⟨_, rfl⟩
                    have hx172 : x172.toInt = (y160.toInt + (-1)) := by rw [ex172]; exact ti_add (rfl : Int32.toInt y160 = _) (show ((-1) : Int32).toInt = (-1) by decide) (by omega) (by omega)
                    refine v_iinc (v := x172) (lv' := [(0, .ref (ad 68)), (1, .int i), (3, .int x172), (4, .int y161)]) C 2 [1, 2, 0, 3] dX9_changeLine_92 rfl (ex172.symm) (by decide) rfl ?_
                    obtain ⟨x173, ex173⟩ : ∃ y : Int32, y = y161 + 1 := ⟨_, rfl⟩
                    have hx173 : x173.toInt = (y161.toInt + 1) := by rw [ex173]; exact ti_add (rfl : Int32.toInt y161 = _) (show (1 : Int32).toInt = 1 by decide) (by omega) (by omega)
                    refine v_iinc (v := x173) (lv' := [(0, .ref (ad 68)), (1, .int i), (3, .int x172), (4, .int x173)]) C 3 [1, 2, 3, 0] dX9_changeLine_95 rfl (ex173.symm) (by decide) rfl ?_
                    refine v_goto C 58 dX9_changeLine_98 (by decide) ?_
                    exact ih165 x172 x173  (by have := hx172; have := hx173; omega) (by have := hx172; have := hx173; omega) (by have := hx172; have := hx173; omega) (by have := hx172; have := hx173; omega)
                  · refine v_aload_n C 0 dX9_changeLine_82 rfl rfl ?_
                    refine v_getr C 68 dX9_changeLine_83 fX9_91 (by omega) hM1.2.2.1 rfl rfl ?_
                    refine v_iload_n C 1 dX9_changeLine_86 rfl rfl ?_
                    refine v_iload C 3 dX9_changeLine_87 rfl ?_
                    refine v_ast C 90 dX9_changeLine_89 (by omega) h90 (ti_in (rfl : Int32.toInt i = _) (by omega) (by omega)) (fun E174 hE174_90 oE174 => ?_)
                    rw [ti_cl (rfl : Int32.toInt i = _)] at hE174_90
                    have hE174_89 := (oE174 89 (by decide)).trans h89
                    have hE174_68 := (oE174 68 (by decide)).trans hM1.2.2.1
                    have hJ175 := hJ.with (hJ.1.2.1.setA rfl (by unfold PT; omega) (fun q => ti_any (fx q)) (ti_any y161) hE174_90 oE174) (oE174 68 (by decide)) (oE174 69 (by decide)) (oE174 70 (by decide)) (fun j _ _ => oE174 j (by omega))
                    have hM176 := hM1.of (oE174 68 (by decide)) (oE174 69 (by decide)) (oE174 70 (by decide))
                    refine v_iconst (v := 1) C dX9_changeLine_90 (by decide) ?_
                    exact v_ret C dX9_changeLine_91 rfl rfl ⟨Or.inl ⟨rfl, by omega⟩, _, _, hE174_89, hE174_90, OXm_x hox (by omega), hJ175⟩
          refine v_sub (lv' := [(0, .ref (ad 68)), (1, .int i), (3, .int x90), (4, .int 0)]) [0, 1, 3, 4] rfl ?_
          exact LP159 100000 x90 0  (by have := hx90; have := (show (0 : Int32).toInt = 0 by decide); omega) (by have := hx90; have := (show (0 : Int32).toInt = 0 by decide); omega) (by have := hx90; have := (show (0 : Int32).toInt = 0 by decide); omega) (by have := hx90; have := (show (0 : Int32).toInt = 0 by decide); omega)
    · refine v_aload_n C 0 dX9_changeLine_16 rfl rfl ?_
      refine v_getr C 68 dX9_changeLine_17 fX9_94 (by omega) hM1.2.2.1 rfl rfl ?_
      refine v_iload_n C 1 dX9_changeLine_20 rfl rfl ?_
      refine v_iconst (v := 1) C dX9_changeLine_21 (by decide) ?_
      refine v_aload_n C 0 dX9_changeLine_22 rfl rfl ?_
      refine v_getr C 68 dX9_changeLine_23 fX9_94 (by omega) hM1.2.2.1 rfl rfl ?_
      refine v_iload_n C 1 dX9_changeLine_26 rfl rfl ?_
      obtain ⟨f178, hE178, hb178⟩ := hJ.1.2.1.getA (b := 91) (by omega) rfl
      refine v_ald (v := f178 (i.toInt).toNat) C 91 dX9_changeLine_27 (by omega) hE178 (ti_in (rfl : Int32.toInt i = _) (by omega) (by omega)) (by rw [ti_cl (rfl : Int32.toInt i = _)]) ?_
      refine v_top (fun x179 _ => ?_)
      refine v_isub C dX9_changeLine_28 ?_
      refine v_top (fun x180 _ => ?_)
      refine v_ast C 91 dX9_changeLine_29 (by omega) hE178 (ti_in (rfl : Int32.toInt i = _) (by omega) (by omega)) (fun E181 hE181_91 oE181 => ?_)
      rw [ti_cl (rfl : Int32.toInt i = _)] at hE181_91
      have hE181_89 := (oE181 89 (by decide)).trans h89
      have hE181_90 := (oE181 90 (by decide)).trans h90
      have hE181_68 := (oE181 68 (by decide)).trans hM1.2.2.1
      have hJ182 := hJ.with (hJ.1.2.1.setA rfl (by unfold PT; omega) hb178 (ti_any x180) hE181_91 oE181) (oE181 68 (by decide)) (oE181 69 (by decide)) (oE181 70 (by decide)) (fun j _ _ => oE181 j (by omega))
      have hM183 := hM1.of (oE181 68 (by decide)) (oE181 69 (by decide)) (oE181 70 (by decide))
      refine v_iconst (v := 1) C dX9_changeLine_30 (by decide) ?_
      exact v_ret C dX9_changeLine_31 rfl rfl ⟨Or.inl ⟨rfl, by omega⟩, _, _, hE181_89, hE181_90, hox, hJ182⟩

set_option maxRecDepth 20000 in
theorem ty_X9_mendsOne (l : Launch) (G : Gl) (ad : Nat → Nat) {Z : (Nat → va_E) → Prop} {kn : Int} {n : Nat} {ic md : Nat → Int32} {bd : Nat → Int × Int} {E0 E : Nat → va_E} (hJ : JY l Z kn G ad n ic md bd PT E0 E) {gop gx gy fl : Nat → Int32} (hgo : E0 85 = aI G 60 gop) (hgx : E0 86 = aI G 60 gx) (hgy : E0 87 = aI G 60 gy) (hgl : E0 88 = aI G 6 fl) (hbl : ∀ k, 0 ≤ (fl k).toInt ∧ (fl k).toInt ≤ 10) (hLX : LXg gop gx) (hf32 : ((0 : Int) ≤ (bd 32).1 ∧ (bd 32).2 ≤ 10) ∧ ((bd 32).1 ≤ 0 ∧ 10 ≤ (bd 32).2)) (hf35 : ((0 : Int) ≤ (bd 35).1 ∧ (bd 35).2 ≤ 8) ∧ ((bd 35).1 ≤ 0 ∧ 8 ≤ (bd 35).2)) (hf41 : ((0 : Int) ≤ (bd 41).1 ∧ (bd 41).2 ≤ 40000) ∧ ((bd 41).1 ≤ 0 ∧ 40000 ≤ (bd 41).2)) (p : Int32) (hp : (0 : Int) ≤ p.toInt ∧ p.toInt ≤ 5) (x : Int32) (hx : (0 : Int) ≤ x.toInt ∧ x.toInt ≤ 2147483647) (y : Int32) (hlw : ((x.toInt % 10 = 1 ∨ x.toInt % 10 = 2) → x.toInt / 10 ≤ 4)) : CtI l G yX9_mendsOne cX9_mendsOne 7 .boolean 11 268 (n) ad E [.ref (ad 68), .int p, .int x, .int y] (fun r E' => (r = 0 ∨ r = 1) ∧ JY l Z kn G ad n ic md bd PT E0 E') := by
  refine CtI.of (by decide) (Nat.le_of_ble_eq_true rfl) (fun X A C => ?_)
  refine v_sub (lv' := [(0, .ref (ad 68)), (1, .int p), (2, .int x), (3, .int y)]) [0, 1, 2, 3] rfl ?_
  have hn := hJ.hn
  have hz16 := hJ.1.2.2.2.2
  refine v_iconst (v := 0) C dX9_mendsOne_0 (by decide) ?_
  refine v_istore (lv' := [(0, .ref (ad 68)), (1, .int p), (2, .int x), (3, .int y), (4, .int 0)]) C [1, 2, 3, 4, 0] dX9_mendsOne_1 (by decide) rfl ?_
  have LP1 : ∀ (t : Nat) (E3 : Nat → va_E) (y2 : Int32), JY l Z kn G ad n ic md (bd) PT E0 E3 → ((0 : Int) ≤ y2.toInt ∧ y2.toInt ≤ 10) → 11 - y2.toInt < (t : Int) → V X G A 7 (QI X G A (n) ad (fun r E' => (r = 0 ∨ r = 1) ∧ JY l Z kn G ad n ic md bd PT E0 E')) n ad 0 0 E3 3 [(0, .ref (ad 68)), (1, .int p), (2, .int x), (3, .int y), (4, .int y2)] [] := by
    intro t7
    induction t7 with
    | zero => intro E3 y2 hJ4 hy2 hm6; exfalso; omega
    | succ t7 ih5 =>
      intro E3 y2 hJ4 hy2 hm6
      refine v_iload C 4 dX9_mendsOne_3 rfl ?_
      refine v_aload_n C 0 dX9_mendsOne_5 rfl rfl ?_
      obtain ⟨im8, hM8, hb8⟩ := hJ4.1.1
      have hq8 := hM8.b
      refine v_getr C 68 dX9_mendsOne_6 fX9_85 (by omega) hM8.2.2.1 rfl rfl ?_
      refine v_iload_n C 1 dX9_mendsOne_9 rfl rfl ?_
      have hE9 := (hJ4.1.2.1.1 88 (by unfold PT; omega)).trans hgl
      refine v_ald (v := fl (p.toInt).toNat) C 88 dX9_mendsOne_10 (by omega) hE9 (ti_in (rfl : Int32.toInt p = _) (by omega) (by omega)) (by rw [ti_cl (rfl : Int32.toInt p = _)]) ?_
      have := hbl ((p.toInt).toNat)
      refine b_icmp_ge C 68 dX9_mendsOne_11 (by decide) (rfl : Int32.toInt y2 = _) (rfl : Int32.toInt (fl (p.toInt).toNat) = _) (fun c10 => ?_) (fun c10 => ?_)
      · refine v_iconst (v := 0) C dX9_mendsOne_68 (by decide) ?_
        exact v_ret C dX9_mendsOne_69 rfl rfl ⟨Or.inl rfl, hJ4⟩
      · refine v_iconst (v := 1) C dX9_mendsOne_14 (by decide) ?_
        refine v_istore (lv' := [(0, .ref (ad 68)), (1, .int p), (2, .int x), (3, .int y), (4, .int y2), (5, .int 1)]) C [1, 2, 3, 4, 5, 0] dX9_mendsOne_15 (by decide) rfl ?_
        refine v_iconst (v := 0) C dX9_mendsOne_17 (by decide) ?_
        refine v_istore (lv' := [(0, .ref (ad 68)), (1, .int p), (2, .int x), (3, .int y), (4, .int y2), (5, .int 1), (6, .int 0)]) C [1, 2, 3, 4, 5, 6, 0] dX9_mendsOne_18 (by decide) rfl ?_
        have LP11 : ∀ (t : Nat) (E15 : Nat → va_E) (y12 : Int32) (y13 : Int32), JY l Z kn G ad n ic md (bd) PT E0 E15 → ((0 : Int) ≤ y12.toInt ∧ y12.toInt ≤ 1) → ((0 : Int) ≤ y13.toInt ∧ y13.toInt ≤ 7) → (y12.toInt = 1 → y13.toInt ≤ 6) → 8 - y13.toInt < (t : Int) → V X G A 7 (QI X G A (n) ad (fun r E' => (r = 0 ∨ r = 1) ∧ JY l Z kn G ad n ic md bd PT E0 E')) n ad 0 0 E15 20 [(0, .ref (ad 68)), (1, .int p), (2, .int x), (3, .int y), (4, .int y2), (5, .int y12), (6, .int y13)] [] := by
          intro t19
          induction t19 with
          | zero => intro E15 y12 y13 hJ16 hy12 hy13 hq14 hm18; exfalso; omega
          | succ t19 ih17 =>
            intro E15 y12 y13 hJ16 hy12 hy13 hq14 hm18
            refine v_iload C 5 dX9_mendsOne_20 rfl ?_
            refine b_if_eq C 62 dX9_mendsOne_22 (by decide) (rfl : Int32.toInt y12 = _) (fun c20 => ?_) (fun c20 => ?_)
            · obtain ⟨x21, ex21⟩ : ∃ y : Int32, y = y2 + 1 := ⟨_, rfl⟩
              have hx21 : x21.toInt = (y2.toInt + 1) := by rw [ex21]; exact ti_add (rfl : Int32.toInt y2 = _) (show (1 : Int32).toInt = 1 by decide) (by omega) (by omega)
              refine v_iinc (v := x21) (lv' := [(0, .ref (ad 68)), (1, .int p), (2, .int x), (3, .int y), (4, .int x21), (5, .int y12), (6, .int y13)]) C 4 [1, 2, 3, 4, 0, 5, 6] dX9_mendsOne_62 rfl (ex21.symm) (by decide) rfl ?_
              refine v_goto C 3 dX9_mendsOne_65 (by decide) ?_
              refine v_sub (lv' := [(0, .ref (ad 68)), (1, .int p), (2, .int x), (3, .int y), (4, .int x21)]) [0, 1, 2, 3, 4] rfl ?_
              exact ih5 _ x21 hJ16 (by have := hx21; omega) (by have := hx21; omega)
            · refine v_aload_n C 0 dX9_mendsOne_25 rfl rfl ?_
              refine v_iload_n C 1 dX9_mendsOne_26 rfl rfl ?_
              obtain ⟨im25, hM25, hb25⟩ := hJ16.1.1
              have hq25 := hM25.b
              refine v_cVv C dX9_mendsOne_27 lX9_219 mX9_take 68 (by omega) hM25.2.2.1 (by decide) rfl (ty_X9_take l G ad hJ16 hgo hgx hgy hgl hbl p (show (0 : Int) ≤ Int32.toInt p ∧ Int32.toInt p ≤ 5 by omega)) ⟨by decide, by decide⟩ rfl (Nat.le_of_ble_eq_true rfl) ⟨Nat.zero_le _, Nat.zero_le _⟩ (fun E22 hT24 => ?_)
              obtain ⟨fo24, fx24, fy24, h8924, h9024, h9124, hT24, hJ23⟩ := hT24
              have hbm24 := hbl (p.toInt).toNat
              have hox24 : OXm fo24 fx24 ((fl (p.toInt).toNat).toInt).toNat := fun j hj hq => by have q := hT24 j hj; rw [q.1] at hq; rw [q.2.1]; exact hLX _ (by omega) hq
              refine v_aload_n C 0 dX9_mendsOne_30 rfl rfl ?_
              refine v_iload C 4 dX9_mendsOne_31 rfl ?_
              refine v_iload C 6 dX9_mendsOne_33 rfl ?_
              obtain ⟨im31, hM31, hb31⟩ := hJ23.1.1
              have hq31 := hM31.b
              refine v_cVi C dX9_mendsOne_35 lX9_292 mX9_changeLine 68 (by omega) hM31.2.2.1 (by decide) rfl (ty_X9_changeLine l G ad hJ23 h8924 h9024 hox24 y2 (show (0 : Int) ≤ Int32.toInt y2 ∧ Int32.toInt y2 ≤ 9 by omega) y13 (show (0 : Int) ≤ Int32.toInt y13 ∧ Int32.toInt y13 ≤ 10 by omega)) ⟨by decide, by decide⟩ rfl (Nat.le_of_ble_eq_true rfl) ⟨Nat.zero_le _, Nat.zero_le _⟩ (fun r26 E27 hp28 => ?_)
              obtain ⟨hp28, fo30, fx30, e8930, e9030, hox30, hJ29⟩ := hp28
              rcases hp28 with ⟨rfl, hp28⟩ | ⟨rfl, hp28⟩
              · refine v_istore (lv' := [(0, .ref (ad 68)), (1, .int p), (2, .int x), (3, .int y), (4, .int y2), (5, .int 1), (6, .int y13)]) C [1, 2, 3, 4, 5, 0, 6] dX9_mendsOne_38 (by decide) rfl ?_
                refine v_iload C 5 dX9_mendsOne_40 rfl ?_
                refine b_if_eq C 56 dX9_mendsOne_42 (by decide) (show (1 : Int32).toInt = 1 by decide) (fun c32 => absurd c32 (by decide)) (fun c32 => ?_)
                refine v_aload_n C 0 dX9_mendsOne_45 rfl rfl ?_
                refine v_iload_n C 2 dX9_mendsOne_46 rfl rfl ?_
                refine v_iload_n C 3 dX9_mendsOne_47 rfl rfl ?_
                obtain ⟨im38, hM38, hb38⟩ := hJ29.1.1
                have hq38 := hM38.b
                refine v_cVi C dX9_mendsOne_48 lX9_295 mX9_isRight 68 (by omega) hM38.2.2.1 (by decide) rfl (ty_X9_isRight l G ad hJ29.self e8930 e9030 (show ((fl (p.toInt).toNat).toInt).toNat ≤ 10 by omega) hox30 (show ((((fl (p.toInt).toNat).toInt).toNat : Nat) : Int) ≤ (fl (p.toInt).toNat).toInt ∧ (fl (p.toInt).toNat).toInt ≤ ((((fl (p.toInt).toNat).toInt).toNat : Nat) : Int) by omega) (show (0 : Int) ≤ (bd 41).1 ∧ (bd 41).2 ≤ 40000 by omega) x (show (0 : Int) ≤ Int32.toInt x ∧ Int32.toInt x ≤ 2147483647 by have := ti_any x; omega) y (by omega)) ⟨by decide, by decide⟩ rfl (Nat.le_of_ble_eq_true rfl) ⟨Nat.zero_le _, Nat.zero_le _⟩ (fun r33 E34 hp35 => ?_)
                obtain ⟨hp35, hJ36⟩ := hp35
                have hJ37 := hJ29.trans (fun _ => PT_PR) hJ36
                have e39 := (hJ36.1.2.1.1 89 (by unfold PR; omega)).trans e8930
                have e40 := (hJ36.1.2.1.1 90 (by unfold PR; omega)).trans e9030
                rcases hp35 with rfl | rfl
                · refine b_if_eq C 56 dX9_mendsOne_51 (by decide) (show (0 : Int32).toInt = 0 by decide) (fun c41 => ?_) (fun c41 => absurd c41 (by decide))
                  obtain ⟨x42, ex42⟩ : ∃ y : Int32, y = y13 + 1 := ⟨_, rfl⟩
                  have hx42 : x42.toInt = (y13.toInt + 1) := by rw [ex42]; exact ti_add (rfl : Int32.toInt y13 = _) (show (1 : Int32).toInt = 1 by decide) (by omega) (by omega)
                  refine v_iinc (v := x42) (lv' := [(0, .ref (ad 68)), (1, .int p), (2, .int x), (3, .int y), (4, .int y2), (5, .int 1), (6, .int x42)]) C 6 [1, 2, 3, 4, 5, 6, 0] dX9_mendsOne_56 rfl (ex42.symm) (by decide) rfl ?_
                  refine v_goto C 20 dX9_mendsOne_59 (by decide) ?_
                  exact ih17 _ 1 x42 ((hJ37.outB (k := 35) (by decide) (show (bd 35).1 ≤ 0 by omega) (show 8 ≤ (bd 35).2 by omega)).outB (k := 32) (by decide) (show (bd 32).1 ≤ (fl (p.toInt).toNat).toInt by omega) (show (fl (p.toInt).toNat).toInt ≤ (bd 32).2 by omega)) (by have := (show (1 : Int32).toInt = 1 by decide); have := hx42; omega) (by have := (show (1 : Int32).toInt = 1 by decide); have := hx42; omega) (by have := (show (1 : Int32).toInt = 1 by decide); have := hx42; omega) (by have := (show (1 : Int32).toInt = 1 by decide); have := hx42; omega)
                · refine b_if_eq C 56 dX9_mendsOne_51 (by decide) (show (1 : Int32).toInt = 1 by decide) (fun c43 => absurd c43 (by decide)) (fun c43 => ?_)
                  refine v_iconst (v := 1) C dX9_mendsOne_54 (by decide) ?_
                  exact v_ret C dX9_mendsOne_55 rfl rfl ⟨Or.inr rfl, ((hJ37.outB (k := 35) (by decide) (show (bd 35).1 ≤ 0 by omega) (show 8 ≤ (bd 35).2 by omega)).outB (k := 32) (by decide) (show (bd 32).1 ≤ (fl (p.toInt).toNat).toInt by omega) (show (fl (p.toInt).toNat).toInt ≤ (bd 32).2 by omega))⟩
              · refine v_istore (lv' := [(0, .ref (ad 68)), (1, .int p), (2, .int x), (3, .int y), (4, .int y2), (5, .int 0), (6, .int y13)]) C [1, 2, 3, 4, 5, 0, 6] dX9_mendsOne_38 (by decide) rfl ?_
                refine v_iload C 5 dX9_mendsOne_40 rfl ?_
                refine b_if_eq C 56 dX9_mendsOne_42 (by decide) (show (0 : Int32).toInt = 0 by decide) (fun c44 => ?_) (fun c44 => absurd c44 (by decide))
                obtain ⟨x45, ex45⟩ : ∃ y : Int32, y = y13 + 1 := ⟨_, rfl⟩
                have hx45 : x45.toInt = (y13.toInt + 1) := by rw [ex45]; exact ti_add (rfl : Int32.toInt y13 = _) (show (1 : Int32).toInt = 1 by decide) (by omega) (by omega)
                refine v_iinc (v := x45) (lv' := [(0, .ref (ad 68)), (1, .int p), (2, .int x), (3, .int y), (4, .int y2), (5, .int 0), (6, .int x45)]) C 6 [1, 2, 3, 4, 5, 6, 0] dX9_mendsOne_56 rfl (ex45.symm) (by decide) rfl ?_
                refine v_goto C 20 dX9_mendsOne_59 (by decide) ?_
                exact ih17 _ 0 x45 (hJ29.outB (k := 32) (by decide) (show (bd 32).1 ≤ (fl (p.toInt).toNat).toInt by omega) (show (fl (p.toInt).toNat).toInt ≤ (bd 32).2 by omega)) (by have := (show (0 : Int32).toInt = 0 by decide); have := hx45; omega) (by have := (show (0 : Int32).toInt = 0 by decide); have := hx45; omega) (by have := (show (0 : Int32).toInt = 0 by decide); have := hx45; omega) (by have := (show (0 : Int32).toInt = 0 by decide); have := hx45; omega)
        exact LP11 100000 _ 1 0 hJ4 (by have := (show (1 : Int32).toInt = 1 by decide); have := (show (0 : Int32).toInt = 0 by decide); omega) (by have := (show (1 : Int32).toInt = 1 by decide); have := (show (0 : Int32).toInt = 0 by decide); omega) (by have := (show (1 : Int32).toInt = 1 by decide); have := (show (0 : Int32).toInt = 0 by decide); omega) (by have := (show (1 : Int32).toInt = 1 by decide); have := (show (0 : Int32).toInt = 0 by decide); omega)
  exact LP1 100000 _ 0 hJ (by have := (show (0 : Int32).toInt = 0 by decide); omega) (by have := (show (0 : Int32).toInt = 0 by decide); omega)

set_option maxRecDepth 20000 in
theorem ty_X9_mendsTwo (l : Launch) (G : Gl) (ad : Nat → Nat) {Z : (Nat → va_E) → Prop} {kn : Int} {n : Nat} {ic md : Nat → Int32} {bd : Nat → Int × Int} {E0 E : Nat → va_E} (hJ : JY l Z kn G ad n ic md bd PT E0 E) {gop gx gy fl : Nat → Int32} (hgo : E0 85 = aI G 60 gop) (hgx : E0 86 = aI G 60 gx) (hgy : E0 87 = aI G 60 gy) (hgl : E0 88 = aI G 6 fl) (hbl : ∀ k, 0 ≤ (fl k).toInt ∧ (fl k).toInt ≤ 10) (hLX : LXg gop gx) (hf32 : ((0 : Int) ≤ (bd 32).1 ∧ (bd 32).2 ≤ 10) ∧ ((bd 32).1 ≤ 0 ∧ 10 ≤ (bd 32).2)) (hf35 : ((0 : Int) ≤ (bd 35).1 ∧ (bd 35).2 ≤ 8) ∧ ((bd 35).1 ≤ 0 ∧ 8 ≤ (bd 35).2)) (hf41 : ((0 : Int) ≤ (bd 41).1 ∧ (bd 41).2 ≤ 40000) ∧ ((bd 41).1 ≤ 0 ∧ 40000 ≤ (bd 41).2)) (p : Int32) (hp : (0 : Int) ≤ p.toInt ∧ p.toInt ≤ 5) (x : Int32) (hx : (0 : Int) ≤ x.toInt ∧ x.toInt ≤ 2147483647) (y : Int32) (hlw : ((x.toInt % 10 = 1 ∨ x.toInt % 10 = 2) → x.toInt / 10 ≤ 4)) : CtI l G yX9_mendsTwo cX9_mendsTwo 11 .boolean 11 268 (n) ad E [.ref (ad 68), .int p, .int x, .int y] (fun r E' => (r = 0 ∨ r = 1) ∧ JY l Z kn G ad n ic md bd PT E0 E') := by
  refine CtI.of (by decide) (Nat.le_of_ble_eq_true rfl) (fun X A C => ?_)
  refine v_sub (lv' := [(0, .ref (ad 68)), (1, .int p), (2, .int x), (3, .int y)]) [0, 1, 2, 3] rfl ?_
  have hn := hJ.hn
  have hz16 := hJ.1.2.2.2.2
  refine v_iconst (v := 0) C dX9_mendsTwo_0 (by decide) ?_
  refine v_istore (lv' := [(0, .ref (ad 68)), (1, .int p), (2, .int x), (3, .int y), (4, .int 0)]) C [1, 2, 3, 4, 0] dX9_mendsTwo_1 (by decide) rfl ?_
  have LP1 : ∀ (t : Nat) (E3 : Nat → va_E) (y2 : Int32), JY l Z kn G ad n ic md (bd) PT E0 E3 → ((0 : Int) ≤ y2.toInt ∧ y2.toInt ≤ 10) → 11 - y2.toInt < (t : Int) → V X G A 11 (QI X G A (n) ad (fun r E' => (r = 0 ∨ r = 1) ∧ JY l Z kn G ad n ic md bd PT E0 E')) n ad 0 0 E3 3 [(0, .ref (ad 68)), (1, .int p), (2, .int x), (3, .int y), (4, .int y2)] [] := by
    intro t7
    induction t7 with
    | zero => intro E3 y2 hJ4 hy2 hm6; exfalso; omega
    | succ t7 ih5 =>
      intro E3 y2 hJ4 hy2 hm6
      refine v_iload C 4 dX9_mendsTwo_3 rfl ?_
      refine v_aload_n C 0 dX9_mendsTwo_5 rfl rfl ?_
      obtain ⟨im8, hM8, hb8⟩ := hJ4.1.1
      have hq8 := hM8.b
      refine v_getr C 68 dX9_mendsTwo_6 fX9_85 (by omega) hM8.2.2.1 rfl rfl ?_
      refine v_iload_n C 1 dX9_mendsTwo_9 rfl rfl ?_
      have hE9 := (hJ4.1.2.1.1 88 (by unfold PT; omega)).trans hgl
      refine v_ald (v := fl (p.toInt).toNat) C 88 dX9_mendsTwo_10 (by omega) hE9 (ti_in (rfl : Int32.toInt p = _) (by omega) (by omega)) (by rw [ti_cl (rfl : Int32.toInt p = _)]) ?_
      have := hbl ((p.toInt).toNat)
      refine b_icmp_ge C 138 dX9_mendsTwo_11 (by decide) (rfl : Int32.toInt y2 = _) (rfl : Int32.toInt (fl (p.toInt).toNat) = _) (fun c10 => ?_) (fun c10 => ?_)
      · refine v_iconst (v := 0) C dX9_mendsTwo_138 (by decide) ?_
        exact v_ret C dX9_mendsTwo_139 rfl rfl ⟨Or.inl rfl, hJ4⟩
      · refine v_iconst (v := 1) C dX9_mendsTwo_14 (by decide) ?_
        refine v_istore (lv' := [(0, .ref (ad 68)), (1, .int p), (2, .int x), (3, .int y), (4, .int y2), (5, .int 1)]) C [1, 2, 3, 4, 5, 0] dX9_mendsTwo_15 (by decide) rfl ?_
        refine v_iconst (v := 0) C dX9_mendsTwo_17 (by decide) ?_
        refine v_istore (lv' := [(0, .ref (ad 68)), (1, .int p), (2, .int x), (3, .int y), (4, .int y2), (5, .int 1), (6, .int 0)]) C [1, 2, 3, 4, 5, 6, 0] dX9_mendsTwo_18 (by decide) rfl ?_
        have LP11 : ∀ (t : Nat) (E15 : Nat → va_E) (y12 : Int32) (y13 : Int32), JY l Z kn G ad n ic md (bd) PT E0 E15 → ((0 : Int) ≤ y12.toInt ∧ y12.toInt ≤ 1) → ((0 : Int) ≤ y13.toInt ∧ y13.toInt ≤ 7) → (y12.toInt = 1 → y13.toInt ≤ 6) → 8 - y13.toInt < (t : Int) → V X G A 11 (QI X G A (n) ad (fun r E' => (r = 0 ∨ r = 1) ∧ JY l Z kn G ad n ic md bd PT E0 E')) n ad 0 0 E15 20 [(0, .ref (ad 68)), (1, .int p), (2, .int x), (3, .int y), (4, .int y2), (5, .int y12), (6, .int y13)] [] := by
          intro t19
          induction t19 with
          | zero => intro E15 y12 y13 hJ16 hy12 hy13 hq14 hm18; exfalso; omega
          | succ t19 ih17 =>
            intro E15 y12 y13 hJ16 hy12 hy13 hq14 hm18
            refine v_iload C 5 dX9_mendsTwo_20 rfl ?_
            refine b_if_eq C 132 dX9_mendsTwo_22 (by decide) (rfl : Int32.toInt y12 = _) (fun c20 => ?_) (fun c20 => ?_)
            · obtain ⟨x21, ex21⟩ : ∃ y : Int32, y = y2 + 1 := ⟨_, rfl⟩
              have hx21 : x21.toInt = (y2.toInt + 1) := by rw [ex21]; exact ti_add (rfl : Int32.toInt y2 = _) (show (1 : Int32).toInt = 1 by decide) (by omega) (by omega)
              refine v_iinc (v := x21) (lv' := [(0, .ref (ad 68)), (1, .int p), (2, .int x), (3, .int y), (4, .int x21), (5, .int y12), (6, .int y13)]) C 4 [1, 2, 3, 4, 0, 5, 6] dX9_mendsTwo_132 rfl (ex21.symm) (by decide) rfl ?_
              refine v_goto C 3 dX9_mendsTwo_135 (by decide) ?_
              refine v_sub (lv' := [(0, .ref (ad 68)), (1, .int p), (2, .int x), (3, .int y), (4, .int x21)]) [0, 1, 2, 3, 4] rfl ?_
              exact ih5 _ x21 hJ16 (by have := hx21; omega) (by have := hx21; omega)
            · refine v_aload_n C 0 dX9_mendsTwo_25 rfl rfl ?_
              refine v_iload_n C 1 dX9_mendsTwo_26 rfl rfl ?_
              obtain ⟨im25, hM25, hb25⟩ := hJ16.1.1
              have hq25 := hM25.b
              refine v_cVv C dX9_mendsTwo_27 lX9_219 mX9_take 68 (by omega) hM25.2.2.1 (by decide) rfl (ty_X9_take l G ad hJ16 hgo hgx hgy hgl hbl p (show (0 : Int) ≤ Int32.toInt p ∧ Int32.toInt p ≤ 5 by omega)) ⟨by decide, by decide⟩ rfl (Nat.le_of_ble_eq_true rfl) ⟨Nat.zero_le _, Nat.zero_le _⟩ (fun E22 hT24 => ?_)
              obtain ⟨fo24, fx24, fy24, h8924, h9024, h9124, hT24, hJ23⟩ := hT24
              have hbm24 := hbl (p.toInt).toNat
              have hox24 : OXm fo24 fx24 ((fl (p.toInt).toNat).toInt).toNat := fun j hj hq => by have q := hT24 j hj; rw [q.1] at hq; rw [q.2.1]; exact hLX _ (by omega) hq
              refine v_aload_n C 0 dX9_mendsTwo_30 rfl rfl ?_
              refine v_iload C 4 dX9_mendsTwo_31 rfl ?_
              refine v_iload C 6 dX9_mendsTwo_33 rfl ?_
              obtain ⟨im31, hM31, hb31⟩ := hJ23.1.1
              have hq31 := hM31.b
              refine v_cVi C dX9_mendsTwo_35 lX9_292 mX9_changeLine 68 (by omega) hM31.2.2.1 (by decide) rfl (ty_X9_changeLine l G ad hJ23 h8924 h9024 hox24 y2 (show (0 : Int) ≤ Int32.toInt y2 ∧ Int32.toInt y2 ≤ 9 by omega) y13 (show (0 : Int) ≤ Int32.toInt y13 ∧ Int32.toInt y13 ≤ 10 by omega)) ⟨by decide, by decide⟩ rfl (Nat.le_of_ble_eq_true rfl) ⟨Nat.zero_le _, Nat.zero_le _⟩ (fun r26 E27 hp28 => ?_)
              obtain ⟨hp28, fo30, fx30, e8930, e9030, hox30, hJ29⟩ := hp28
              rcases hp28 with ⟨rfl, hp28⟩ | ⟨rfl, hp28⟩
              · refine v_istore (lv' := [(0, .ref (ad 68)), (1, .int p), (2, .int x), (3, .int y), (4, .int y2), (5, .int 1), (6, .int y13)]) C [1, 2, 3, 4, 5, 0, 6] dX9_mendsTwo_38 (by decide) rfl ?_
                refine v_iload C 4 dX9_mendsTwo_40 rfl ?_
                refine v_iconst (v := 1) C dX9_mendsTwo_42 (by decide) ?_
                refine v_iadd C dX9_mendsTwo_43 ?_
                refine v_top (fun x32 ex32 => ?_)
                have hx32 : x32.toInt = (y2.toInt + 1) := by rw [ex32]; exact ti_add (rfl : Int32.toInt y2 = _) (show (1 : Int32).toInt = 1 by decide) (by omega) (by omega)
                refine v_istore (lv' := [(0, .ref (ad 68)), (1, .int p), (2, .int x), (3, .int y), (4, .int y2), (5, .int 1), (6, .int y13), (7, .int x32)]) C [1, 2, 3, 4, 5, 6, 7, 0] dX9_mendsTwo_44 (by decide) rfl ?_
                have LP33 : ∀ (t : Nat) (E35 : Nat → va_E) (y34 : Int32), JY l Z kn G ad n ic md (bd) PT E0 E35 → ((0 : Int) ≤ y34.toInt ∧ y34.toInt ≤ 10) → 11 - y34.toInt < (t : Int) → V X G A 11 (QI X G A (n) ad (fun r E' => (r = 0 ∨ r = 1) ∧ JY l Z kn G ad n ic md bd PT E0 E')) n ad 0 0 E35 46 [(0, .ref (ad 68)), (1, .int p), (2, .int x), (3, .int y), (4, .int y2), (5, .int 1), (6, .int y13), (7, .int y34)] [] := by
                  intro t39
                  induction t39 with
                  | zero => intro E35 y34 hJ36 hy34 hm38; exfalso; omega
                  | succ t39 ih37 =>
                    intro E35 y34 hJ36 hy34 hm38
                    refine v_iload C 7 dX9_mendsTwo_46 rfl ?_
                    refine v_aload_n C 0 dX9_mendsTwo_48 rfl rfl ?_
                    obtain ⟨im40, hM40, hb40⟩ := hJ36.1.1
                    have hq40 := hM40.b
                    refine v_getr C 68 dX9_mendsTwo_49 fX9_85 (by omega) hM40.2.2.1 rfl rfl ?_
                    refine v_iload_n C 1 dX9_mendsTwo_52 rfl rfl ?_
                    have hE41 := (hJ36.1.2.1.1 88 (by unfold PT; omega)).trans hgl
                    refine v_ald (v := fl (p.toInt).toNat) C 88 dX9_mendsTwo_53 (by omega) hE41 (ti_in (rfl : Int32.toInt p = _) (by omega) (by omega)) (by rw [ti_cl (rfl : Int32.toInt p = _)]) ?_
                    have := hbl ((p.toInt).toNat)
                    refine b_icmp_ge C 126 dX9_mendsTwo_54 (by decide) (rfl : Int32.toInt y34 = _) (rfl : Int32.toInt (fl (p.toInt).toNat) = _) (fun c42 => ?_) (fun c42 => ?_)
                    · obtain ⟨x43, ex43⟩ : ∃ y : Int32, y = y13 + 1 := ⟨_, rfl⟩
                      have hx43 : x43.toInt = (y13.toInt + 1) := by rw [ex43]; exact ti_add (rfl : Int32.toInt y13 = _) (show (1 : Int32).toInt = 1 by decide) (by omega) (by omega)
                      refine v_iinc (v := x43) (lv' := [(0, .ref (ad 68)), (1, .int p), (2, .int x), (3, .int y), (4, .int y2), (5, .int 1), (6, .int x43), (7, .int y34)]) C 6 [1, 2, 3, 4, 5, 6, 0, 7] dX9_mendsTwo_126 rfl (ex43.symm) (by decide) rfl ?_
                      refine v_goto C 20 dX9_mendsTwo_129 (by decide) ?_
                      refine v_sub (lv' := [(0, .ref (ad 68)), (1, .int p), (2, .int x), (3, .int y), (4, .int y2), (5, .int 1), (6, .int x43)]) [0, 1, 2, 3, 4, 5, 6] rfl ?_
                      exact ih17 _ 1 x43 hJ36 (by have := (show (1 : Int32).toInt = 1 by decide); have := hx43; omega) (by have := (show (1 : Int32).toInt = 1 by decide); have := hx43; omega) (by have := (show (1 : Int32).toInt = 1 by decide); have := hx43; omega) (by have := (show (1 : Int32).toInt = 1 by decide); have := hx43; omega)
                    · refine v_iload C 5 dX9_mendsTwo_57 rfl ?_
                      refine b_if_eq C 126 dX9_mendsTwo_59 (by decide) (show (1 : Int32).toInt = 1 by decide) (fun c44 => absurd c44 (by decide)) (fun c44 => ?_)
                      refine v_iconst (v := 1) C dX9_mendsTwo_62 (by decide) ?_
                      refine v_istore (lv' := [(0, .ref (ad 68)), (1, .int p), (2, .int x), (3, .int y), (4, .int y2), (5, .int 1), (6, .int y13), (7, .int y34), (8, .int 1)]) C [1, 2, 3, 4, 5, 6, 7, 8, 0] dX9_mendsTwo_63 (by decide) rfl ?_
                      refine v_iconst (v := 0) C dX9_mendsTwo_65 (by decide) ?_
                      refine v_istore (lv' := [(0, .ref (ad 68)), (1, .int p), (2, .int x), (3, .int y), (4, .int y2), (5, .int 1), (6, .int y13), (7, .int y34), (8, .int 1), (9, .int 0)]) C [1, 2, 3, 4, 5, 6, 7, 8, 9, 0] dX9_mendsTwo_66 (by decide) rfl ?_
                      have LP45 : ∀ (t : Nat) (E49 : Nat → va_E) (y46 : Int32) (y47 : Int32), JY l Z kn G ad n ic md (bd) PT E0 E49 → ((0 : Int) ≤ y46.toInt ∧ y46.toInt ≤ 1) → ((0 : Int) ≤ y47.toInt ∧ y47.toInt ≤ 7) → (y46.toInt = 1 → y47.toInt ≤ 6) → 8 - y47.toInt < (t : Int) → V X G A 11 (QI X G A (n) ad (fun r E' => (r = 0 ∨ r = 1) ∧ JY l Z kn G ad n ic md bd PT E0 E')) n ad 0 0 E49 68 [(0, .ref (ad 68)), (1, .int p), (2, .int x), (3, .int y), (4, .int y2), (5, .int 1), (6, .int y13), (7, .int y34), (8, .int y46), (9, .int y47)] [] := by
                        intro t53
                        induction t53 with
                        | zero => intro E49 y46 y47 hJ50 hy46 hy47 hq48 hm52; exfalso; omega
                        | succ t53 ih51 =>
                          intro E49 y46 y47 hJ50 hy46 hy47 hq48 hm52
                          refine v_iload C 8 dX9_mendsTwo_68 rfl ?_
                          refine b_if_eq C 120 dX9_mendsTwo_70 (by decide) (rfl : Int32.toInt y46 = _) (fun c54 => ?_) (fun c54 => ?_)
                          · obtain ⟨x55, ex55⟩ : ∃ y : Int32, y = y34 + 1 := ⟨_, rfl⟩
                            have hx55 : x55.toInt = (y34.toInt + 1) := by rw [ex55]; exact ti_add (rfl : Int32.toInt y34 = _) (show (1 : Int32).toInt = 1 by decide) (by omega) (by omega)
                            refine v_iinc (v := x55) (lv' := [(0, .ref (ad 68)), (1, .int p), (2, .int x), (3, .int y), (4, .int y2), (5, .int 1), (6, .int y13), (7, .int x55), (8, .int y46), (9, .int y47)]) C 7 [1, 2, 3, 4, 5, 6, 7, 0, 8, 9] dX9_mendsTwo_120 rfl (ex55.symm) (by decide) rfl ?_
                            refine v_goto C 46 dX9_mendsTwo_123 (by decide) ?_
                            refine v_sub (lv' := [(0, .ref (ad 68)), (1, .int p), (2, .int x), (3, .int y), (4, .int y2), (5, .int 1), (6, .int y13), (7, .int x55)]) [0, 1, 2, 3, 4, 5, 6, 7] rfl ?_
                            exact ih37 _ x55 hJ50 (by have := hx55; omega) (by have := hx55; omega)
                          · refine v_aload_n C 0 dX9_mendsTwo_73 rfl rfl ?_
                            refine v_iload_n C 1 dX9_mendsTwo_74 rfl rfl ?_
                            obtain ⟨im59, hM59, hb59⟩ := hJ50.1.1
                            have hq59 := hM59.b
                            refine v_cVv C dX9_mendsTwo_75 lX9_219 mX9_take 68 (by omega) hM59.2.2.1 (by decide) rfl (ty_X9_take l G ad hJ50 hgo hgx hgy hgl hbl p (show (0 : Int) ≤ Int32.toInt p ∧ Int32.toInt p ≤ 5 by omega)) ⟨by decide, by decide⟩ rfl (Nat.le_of_ble_eq_true rfl) ⟨Nat.zero_le _, Nat.zero_le _⟩ (fun E56 hT58 => ?_)
                            obtain ⟨fo58, fx58, fy58, h8958, h9058, h9158, hT58, hJ57⟩ := hT58
                            have hbm58 := hbl (p.toInt).toNat
                            have hox58 : OXm fo58 fx58 ((fl (p.toInt).toNat).toInt).toNat := fun j hj hq => by have q := hT58 j hj; rw [q.1] at hq; rw [q.2.1]; exact hLX _ (by omega) hq
                            refine v_aload_n C 0 dX9_mendsTwo_78 rfl rfl ?_
                            refine v_iload C 4 dX9_mendsTwo_79 rfl ?_
                            refine v_iload C 6 dX9_mendsTwo_81 rfl ?_
                            obtain ⟨im65, hM65, hb65⟩ := hJ57.1.1
                            have hq65 := hM65.b
                            refine v_cVi C dX9_mendsTwo_83 lX9_292 mX9_changeLine 68 (by omega) hM65.2.2.1 (by decide) rfl (ty_X9_changeLine l G ad hJ57 h8958 h9058 hox58 y2 (show (0 : Int) ≤ Int32.toInt y2 ∧ Int32.toInt y2 ≤ 9 by omega) y13 (show (0 : Int) ≤ Int32.toInt y13 ∧ Int32.toInt y13 ≤ 10 by omega)) ⟨by decide, by decide⟩ rfl (Nat.le_of_ble_eq_true rfl) ⟨Nat.zero_le _, Nat.zero_le _⟩ (fun r60 E61 hp62 => ?_)
                            obtain ⟨hp62, fo64, fx64, e8964, e9064, hox64, hJ63⟩ := hp62
                            rcases hp62 with ⟨rfl, hp62⟩ | ⟨rfl, hp62⟩
                            · refine v_istore (lv' := [(0, .ref (ad 68)), (1, .int p), (2, .int x), (3, .int y), (4, .int y2), (5, .int 1), (6, .int y13), (7, .int y34), (8, .int y46), (9, .int y47), (10, .int 1)]) C [1, 2, 3, 4, 5, 6, 7, 8, 9, 10, 0] dX9_mendsTwo_86 (by decide) rfl ?_
                              refine v_aload_n C 0 dX9_mendsTwo_88 rfl rfl ?_
                              refine v_iload C 7 dX9_mendsTwo_89 rfl ?_
                              refine v_iload C 9 dX9_mendsTwo_91 rfl ?_
                              obtain ⟨im71, hM71, hb71⟩ := hJ63.1.1
                              have hq71 := hM71.b
                              refine v_cVi C dX9_mendsTwo_93 lX9_292 mX9_changeLine 68 (by omega) hM71.2.2.1 (by decide) rfl (ty_X9_changeLine l G ad hJ63 e8964 e9064 hox64 y34 (show (0 : Int) ≤ Int32.toInt y34 ∧ Int32.toInt y34 ≤ 9 by omega) y47 (show (0 : Int) ≤ Int32.toInt y47 ∧ Int32.toInt y47 ≤ 10 by omega)) ⟨by decide, by decide⟩ rfl (Nat.le_of_ble_eq_true rfl) ⟨Nat.zero_le _, Nat.zero_le _⟩ (fun r66 E67 hp68 => ?_)
                              obtain ⟨hp68, fo70, fx70, e8970, e9070, hox70, hJ69⟩ := hp68
                              rcases hp68 with ⟨rfl, hp68⟩ | ⟨rfl, hp68⟩
                              · refine v_istore (lv' := [(0, .ref (ad 68)), (1, .int p), (2, .int x), (3, .int y), (4, .int y2), (5, .int 1), (6, .int y13), (7, .int y34), (8, .int 1), (9, .int y47), (10, .int 1)]) C [1, 2, 3, 4, 5, 6, 7, 8, 0, 9, 10] dX9_mendsTwo_96 (by decide) rfl ?_
                                refine v_iload C 8 dX9_mendsTwo_98 rfl ?_
                                refine b_if_eq C 114 dX9_mendsTwo_100 (by decide) (show (1 : Int32).toInt = 1 by decide) (fun c72 => absurd c72 (by decide)) (fun c72 => ?_)
                                refine v_aload_n C 0 dX9_mendsTwo_103 rfl rfl ?_
                                refine v_iload_n C 2 dX9_mendsTwo_104 rfl rfl ?_
                                refine v_iload_n C 3 dX9_mendsTwo_105 rfl rfl ?_
                                obtain ⟨im78, hM78, hb78⟩ := hJ69.1.1
                                have hq78 := hM78.b
                                refine v_cVi C dX9_mendsTwo_106 lX9_295 mX9_isRight 68 (by omega) hM78.2.2.1 (by decide) rfl (ty_X9_isRight l G ad hJ69.self e8970 e9070 (show ((fl (p.toInt).toNat).toInt).toNat ≤ 10 by omega) hox70 (show ((((fl (p.toInt).toNat).toInt).toNat : Nat) : Int) ≤ (fl (p.toInt).toNat).toInt ∧ (fl (p.toInt).toNat).toInt ≤ ((((fl (p.toInt).toNat).toInt).toNat : Nat) : Int) by omega) (show (0 : Int) ≤ (bd 41).1 ∧ (bd 41).2 ≤ 40000 by omega) x (show (0 : Int) ≤ Int32.toInt x ∧ Int32.toInt x ≤ 2147483647 by have := ti_any x; omega) y (by omega)) ⟨by decide, by decide⟩ rfl (Nat.le_of_ble_eq_true rfl) ⟨Nat.zero_le _, Nat.zero_le _⟩ (fun r73 E74 hp75 => ?_)
                                obtain ⟨hp75, hJ76⟩ := hp75
                                have hJ77 := hJ69.trans (fun _ => PT_PR) hJ76
                                have e79 := (hJ76.1.2.1.1 89 (by unfold PR; omega)).trans e8970
                                have e80 := (hJ76.1.2.1.1 90 (by unfold PR; omega)).trans e9070
                                rcases hp75 with rfl | rfl
                                · refine b_if_eq C 114 dX9_mendsTwo_109 (by decide) (show (0 : Int32).toInt = 0 by decide) (fun c81 => ?_) (fun c81 => absurd c81 (by decide))
                                  obtain ⟨x82, ex82⟩ : ∃ y : Int32, y = y47 + 1 := ⟨_, rfl⟩
                                  have hx82 : x82.toInt = (y47.toInt + 1) := by rw [ex82]; exact ti_add (rfl : Int32.toInt y47 = _) (show (1 : Int32).toInt = 1 by decide) (by omega) (by omega)
                                  refine v_iinc (v := x82) (lv' := [(0, .ref (ad 68)), (1, .int p), (2, .int x), (3, .int y), (4, .int y2), (5, .int 1), (6, .int y13), (7, .int y34), (8, .int 1), (9, .int x82), (10, .int 1)]) C 9 [1, 2, 3, 4, 5, 6, 7, 8, 9, 0, 10] dX9_mendsTwo_114 rfl (ex82.symm) (by decide) rfl ?_
                                  refine v_goto C 68 dX9_mendsTwo_117 (by decide) ?_
                                  refine v_sub (lv' := [(0, .ref (ad 68)), (1, .int p), (2, .int x), (3, .int y), (4, .int y2), (5, .int 1), (6, .int y13), (7, .int y34), (8, .int 1), (9, .int x82)]) [0, 1, 2, 3, 4, 5, 6, 7, 8, 9] rfl ?_
                                  exact ih51 _ 1 x82 ((hJ77.outB (k := 35) (by decide) (show (bd 35).1 ≤ 0 by omega) (show 8 ≤ (bd 35).2 by omega)).outB (k := 32) (by decide) (show (bd 32).1 ≤ (fl (p.toInt).toNat).toInt by omega) (show (fl (p.toInt).toNat).toInt ≤ (bd 32).2 by omega)) (by have := (show (1 : Int32).toInt = 1 by decide); have := hx82; omega) (by have := (show (1 : Int32).toInt = 1 by decide); have := hx82; omega) (by have := (show (1 : Int32).toInt = 1 by decide); have := hx82; omega) (by have := (show (1 : Int32).toInt = 1 by decide); have := hx82; omega)
                                · refine b_if_eq C 114 dX9_mendsTwo_109 (by decide) (show (1 : Int32).toInt = 1 by decide) (fun c83 => absurd c83 (by decide)) (fun c83 => ?_)
                                  refine v_iconst (v := 1) C dX9_mendsTwo_112 (by decide) ?_
                                  exact v_ret C dX9_mendsTwo_113 rfl rfl ⟨Or.inr rfl, ((hJ77.outB (k := 35) (by decide) (show (bd 35).1 ≤ 0 by omega) (show 8 ≤ (bd 35).2 by omega)).outB (k := 32) (by decide) (show (bd 32).1 ≤ (fl (p.toInt).toNat).toInt by omega) (show (fl (p.toInt).toNat).toInt ≤ (bd 32).2 by omega))⟩
                              · refine v_istore (lv' := [(0, .ref (ad 68)), (1, .int p), (2, .int x), (3, .int y), (4, .int y2), (5, .int 1), (6, .int y13), (7, .int y34), (8, .int 0), (9, .int y47), (10, .int 1)]) C [1, 2, 3, 4, 5, 6, 7, 8, 0, 9, 10] dX9_mendsTwo_96 (by decide) rfl ?_
                                refine v_iload C 8 dX9_mendsTwo_98 rfl ?_
                                refine b_if_eq C 114 dX9_mendsTwo_100 (by decide) (show (0 : Int32).toInt = 0 by decide) (fun c84 => ?_) (fun c84 => absurd c84 (by decide))
                                obtain ⟨x85, ex85⟩ : ∃ y : Int32, y = y47 + 1 := ⟨_, rfl⟩
                                have hx85 : x85.toInt = (y47.toInt + 1) := by rw [ex85]; exact ti_add (rfl : Int32.toInt y47 = _) (show (1 : Int32).toInt = 1 by decide) (by omega) (by omega)
                                refine v_iinc (v := x85) (lv' := [(0, .ref (ad 68)), (1, .int p), (2, .int x), (3, .int y), (4, .int y2), (5, .int 1), (6, .int y13), (7, .int y34), (8, .int 0), (9, .int x85), (10, .int 1)]) C 9 [1, 2, 3, 4, 5, 6, 7, 8, 9, 0, 10] dX9_mendsTwo_114 rfl (ex85.symm) (by decide) rfl ?_
                                refine v_goto C 68 dX9_mendsTwo_117 (by decide) ?_
                                refine v_sub (lv' := [(0, .ref (ad 68)), (1, .int p), (2, .int x), (3, .int y), (4, .int y2), (5, .int 1), (6, .int y13), (7, .int y34), (8, .int 0), (9, .int x85)]) [0, 1, 2, 3, 4, 5, 6, 7, 8, 9] rfl ?_
                                exact ih51 _ 0 x85 (hJ69.outB (k := 32) (by decide) (show (bd 32).1 ≤ (fl (p.toInt).toNat).toInt by omega) (show (fl (p.toInt).toNat).toInt ≤ (bd 32).2 by omega)) (by have := (show (0 : Int32).toInt = 0 by decide); have := hx85; omega) (by have := (show (0 : Int32).toInt = 0 by decide); have := hx85; omega) (by have := (show (0 : Int32).toInt = 0 by decide); have := hx85; omega) (by have := (show (0 : Int32).toInt = 0 by decide); have := hx85; omega)
                            · refine v_istore (lv' := [(0, .ref (ad 68)), (1, .int p), (2, .int x), (3, .int y), (4, .int y2), (5, .int 1), (6, .int y13), (7, .int y34), (8, .int y46), (9, .int y47), (10, .int 0)]) C [1, 2, 3, 4, 5, 6, 7, 8, 9, 10, 0] dX9_mendsTwo_86 (by decide) rfl ?_
                              refine v_aload_n C 0 dX9_mendsTwo_88 rfl rfl ?_
                              refine v_iload C 7 dX9_mendsTwo_89 rfl ?_
                              refine v_iload C 9 dX9_mendsTwo_91 rfl ?_
                              obtain ⟨im91, hM91, hb91⟩ := hJ63.1.1
                              have hq91 := hM91.b
                              refine v_cVi C dX9_mendsTwo_93 lX9_292 mX9_changeLine 68 (by omega) hM91.2.2.1 (by decide) rfl (ty_X9_changeLine l G ad hJ63 e8964 e9064 hox64 y34 (show (0 : Int) ≤ Int32.toInt y34 ∧ Int32.toInt y34 ≤ 9 by omega) y47 (show (0 : Int) ≤ Int32.toInt y47 ∧ Int32.toInt y47 ≤ 10 by omega)) ⟨by decide, by decide⟩ rfl (Nat.le_of_ble_eq_true rfl) ⟨Nat.zero_le _, Nat.zero_le _⟩ (fun r86 E87 hp88 => ?_)
                              obtain ⟨hp88, fo90, fx90, e8990, e9090, hox90, hJ89⟩ := hp88
                              rcases hp88 with ⟨rfl, hp88⟩ | ⟨rfl, hp88⟩
                              · refine v_istore (lv' := [(0, .ref (ad 68)), (1, .int p), (2, .int x), (3, .int y), (4, .int y2), (5, .int 1), (6, .int y13), (7, .int y34), (8, .int 1), (9, .int y47), (10, .int 0)]) C [1, 2, 3, 4, 5, 6, 7, 8, 0, 9, 10] dX9_mendsTwo_96 (by decide) rfl ?_
                                refine v_iload C 8 dX9_mendsTwo_98 rfl ?_
                                refine b_if_eq C 114 dX9_mendsTwo_100 (by decide) (show (1 : Int32).toInt = 1 by decide) (fun c92 => absurd c92 (by decide)) (fun c92 => ?_)
                                refine v_aload_n C 0 dX9_mendsTwo_103 rfl rfl ?_
                                refine v_iload_n C 2 dX9_mendsTwo_104 rfl rfl ?_
                                refine v_iload_n C 3 dX9_mendsTwo_105 rfl rfl ?_
                                obtain ⟨im98, hM98, hb98⟩ := hJ89.1.1
                                have hq98 := hM98.b
                                refine v_cVi C dX9_mendsTwo_106 lX9_295 mX9_isRight 68 (by omega) hM98.2.2.1 (by decide) rfl (ty_X9_isRight l G ad hJ89.self e8990 e9090 (show ((fl (p.toInt).toNat).toInt).toNat ≤ 10 by omega) hox90 (show ((((fl (p.toInt).toNat).toInt).toNat : Nat) : Int) ≤ (fl (p.toInt).toNat).toInt ∧ (fl (p.toInt).toNat).toInt ≤ ((((fl (p.toInt).toNat).toInt).toNat : Nat) : Int) by omega) (show (0 : Int) ≤ (bd 41).1 ∧ (bd 41).2 ≤ 40000 by omega) x (show (0 : Int) ≤ Int32.toInt x ∧ Int32.toInt x ≤ 2147483647 by have := ti_any x; omega) y (by omega)) ⟨by decide, by decide⟩ rfl (Nat.le_of_ble_eq_true rfl) ⟨Nat.zero_le _, Nat.zero_le _⟩ (fun r93 E94 hp95 => ?_)
                                obtain ⟨hp95, hJ96⟩ := hp95
                                have hJ97 := hJ89.trans (fun _ => PT_PR) hJ96
                                have e99 := (hJ96.1.2.1.1 89 (by unfold PR; omega)).trans e8990
                                have e100 := (hJ96.1.2.1.1 90 (by unfold PR; omega)).trans e9090
                                rcases hp95 with rfl | rfl
                                · refine b_if_eq C 114 dX9_mendsTwo_109 (by decide) (show (0 : Int32).toInt = 0 by decide) (fun c101 => ?_) (fun c101 => absurd c101 (by decide))
                                  obtain ⟨x102, ex102⟩ : ∃ y : Int32, y = y47 + 1 := ⟨_, rfl⟩
                                  have hx102 : x102.toInt = (y47.toInt + 1) := by rw [ex102]; exact ti_add (rfl : Int32.toInt y47 = _) (show (1 : Int32).toInt = 1 by decide) (by omega) (by omega)
                                  refine v_iinc (v := x102) (lv' := [(0, .ref (ad 68)), (1, .int p), (2, .int x), (3, .int y), (4, .int y2), (5, .int 1), (6, .int y13), (7, .int y34), (8, .int 1), (9, .int x102), (10, .int 0)]) C 9 [1, 2, 3, 4, 5, 6, 7, 8, 9, 0, 10] dX9_mendsTwo_114 rfl (ex102.symm) (by decide) rfl ?_
                                  refine v_goto C 68 dX9_mendsTwo_117 (by decide) ?_
                                  refine v_sub (lv' := [(0, .ref (ad 68)), (1, .int p), (2, .int x), (3, .int y), (4, .int y2), (5, .int 1), (6, .int y13), (7, .int y34), (8, .int 1), (9, .int x102)]) [0, 1, 2, 3, 4, 5, 6, 7, 8, 9] rfl ?_
                                  exact ih51 _ 1 x102 ((hJ97.outB (k := 35) (by decide) (show (bd 35).1 ≤ 0 by omega) (show 8 ≤ (bd 35).2 by omega)).outB (k := 32) (by decide) (show (bd 32).1 ≤ (fl (p.toInt).toNat).toInt by omega) (show (fl (p.toInt).toNat).toInt ≤ (bd 32).2 by omega)) (by have := (show (1 : Int32).toInt = 1 by decide); have := hx102; omega) (by have := (show (1 : Int32).toInt = 1 by decide); have := hx102; omega) (by have := (show (1 : Int32).toInt = 1 by decide); have := hx102; omega) (by have := (show (1 : Int32).toInt = 1 by decide); have := hx102; omega)
                                · refine b_if_eq C 114 dX9_mendsTwo_109 (by decide) (show (1 : Int32).toInt = 1 by decide) (fun c103 => absurd c103 (by decide)) (fun c103 => ?_)
                                  refine v_iconst (v := 1) C dX9_mendsTwo_112 (by decide) ?_
                                  exact v_ret C dX9_mendsTwo_113 rfl rfl ⟨Or.inr rfl, ((hJ97.outB (k := 35) (by decide) (show (bd 35).1 ≤ 0 by omega) (show 8 ≤ (bd 35).2 by omega)).outB (k := 32) (by decide) (show (bd 32).1 ≤ (fl (p.toInt).toNat).toInt by omega) (show (fl (p.toInt).toNat).toInt ≤ (bd 32).2 by omega))⟩
                              · refine v_istore (lv' := [(0, .ref (ad 68)), (1, .int p), (2, .int x), (3, .int y), (4, .int y2), (5, .int 1), (6, .int y13), (7, .int y34), (8, .int 0), (9, .int y47), (10, .int 0)]) C [1, 2, 3, 4, 5, 6, 7, 8, 0, 9, 10] dX9_mendsTwo_96 (by decide) rfl ?_
                                refine v_iload C 8 dX9_mendsTwo_98 rfl ?_
                                refine b_if_eq C 114 dX9_mendsTwo_100 (by decide) (show (0 : Int32).toInt = 0 by decide) (fun c104 => ?_) (fun c104 => absurd c104 (by decide))
                                obtain ⟨x105, ex105⟩ : ∃ y : Int32, y = y47 + 1 := ⟨_, rfl⟩
                                have hx105 : x105.toInt = (y47.toInt + 1) := by rw [ex105]; exact ti_add (rfl : Int32.toInt y47 = _) (show (1 : Int32).toInt = 1 by decide) (by omega) (by omega)
                                refine v_iinc (v := x105) (lv' := [(0, .ref (ad 68)), (1, .int p), (2, .int x), (3, .int y), (4, .int y2), (5, .int 1), (6, .int y13), (7, .int y34), (8, .int 0), (9, .int x105), (10, .int 0)]) C 9 [1, 2, 3, 4, 5, 6, 7, 8, 9, 0, 10] dX9_mendsTwo_114 rfl (ex105.symm) (by decide) rfl ?_
                                refine v_goto C 68 dX9_mendsTwo_117 (by decide) ?_
                                refine v_sub (lv' := [(0, .ref (ad 68)), (1, .int p), (2, .int x), (3, .int y), (4, .int y2), (5, .int 1), (6, .int y13), (7, .int y34), (8, .int 0), (9, .int x105)]) [0, 1, 2, 3, 4, 5, 6, 7, 8, 9] rfl ?_
                                exact ih51 _ 0 x105 (hJ89.outB (k := 32) (by decide) (show (bd 32).1 ≤ (fl (p.toInt).toNat).toInt by omega) (show (fl (p.toInt).toNat).toInt ≤ (bd 32).2 by omega)) (by have := (show (0 : Int32).toInt = 0 by decide); have := hx105; omega) (by have := (show (0 : Int32).toInt = 0 by decide); have := hx105; omega) (by have := (show (0 : Int32).toInt = 0 by decide); have := hx105; omega) (by have := (show (0 : Int32).toInt = 0 by decide); have := hx105; omega)
                      exact LP45 100000 _ 1 0 hJ36 (by have := (show (1 : Int32).toInt = 1 by decide); have := (show (0 : Int32).toInt = 0 by decide); omega) (by have := (show (1 : Int32).toInt = 1 by decide); have := (show (0 : Int32).toInt = 0 by decide); omega) (by have := (show (1 : Int32).toInt = 1 by decide); have := (show (0 : Int32).toInt = 0 by decide); omega) (by have := (show (1 : Int32).toInt = 1 by decide); have := (show (0 : Int32).toInt = 0 by decide); omega)
                exact LP33 100000 _ x32 (hJ29.outB (k := 32) (by decide) (show (bd 32).1 ≤ (fl (p.toInt).toNat).toInt by omega) (show (fl (p.toInt).toNat).toInt ≤ (bd 32).2 by omega)) (by have := hx32; omega) (by have := hx32; omega)
              · refine v_istore (lv' := [(0, .ref (ad 68)), (1, .int p), (2, .int x), (3, .int y), (4, .int y2), (5, .int 0), (6, .int y13)]) C [1, 2, 3, 4, 5, 0, 6] dX9_mendsTwo_38 (by decide) rfl ?_
                refine v_iload C 4 dX9_mendsTwo_40 rfl ?_
                refine v_iconst (v := 1) C dX9_mendsTwo_42 (by decide) ?_
                refine v_iadd C dX9_mendsTwo_43 ?_
                refine v_top (fun x106 ex106 => ?_)
                have hx106 : x106.toInt = (y2.toInt + 1) := by rw [ex106]; exact ti_add (rfl : Int32.toInt y2 = _) (show (1 : Int32).toInt = 1 by decide) (by omega) (by omega)
                refine v_istore (lv' := [(0, .ref (ad 68)), (1, .int p), (2, .int x), (3, .int y), (4, .int y2), (5, .int 0), (6, .int y13), (7, .int x106)]) C [1, 2, 3, 4, 5, 6, 7, 0] dX9_mendsTwo_44 (by decide) rfl ?_
                have LP107 : ∀ (t : Nat) (E109 : Nat → va_E) (y108 : Int32), JY l Z kn G ad n ic md (bd) PT E0 E109 → ((0 : Int) ≤ y108.toInt ∧ y108.toInt ≤ 10) → 11 - y108.toInt < (t : Int) → V X G A 11 (QI X G A (n) ad (fun r E' => (r = 0 ∨ r = 1) ∧ JY l Z kn G ad n ic md bd PT E0 E')) n ad 0 0 E109 46 [(0, .ref (ad 68)), (1, .int p), (2, .int x), (3, .int y), (4, .int y2), (5, .int 0), (6, .int y13), (7, .int y108)] [] := by
                  intro t113
                  induction t113 with
                  | zero => intro E109 y108 hJ110 hy108 hm112; exfalso; omega
                  | succ t113 ih111 =>
                    intro E109 y108 hJ110 hy108 hm112
                    refine v_iload C 7 dX9_mendsTwo_46 rfl ?_
                    refine v_aload_n C 0 dX9_mendsTwo_48 rfl rfl ?_
                    obtain ⟨im114, hM114, hb114⟩ := hJ110.1.1
                    have hq114 := hM114.b
                    refine v_getr C 68 dX9_mendsTwo_49 fX9_85 (by omega) hM114.2.2.1 rfl rfl ?_
                    refine v_iload_n C 1 dX9_mendsTwo_52 rfl rfl ?_
                    have hE115 := (hJ110.1.2.1.1 88 (by unfold PT; omega)).trans hgl
                    refine v_ald (v := fl (p.toInt).toNat) C 88 dX9_mendsTwo_53 (by omega) hE115 (ti_in (rfl : Int32.toInt p = _) (by omega) (by omega)) (by rw [ti_cl (rfl : Int32.toInt p = _)]) ?_
                    have := hbl ((p.toInt).toNat)
                    refine b_icmp_ge C 126 dX9_mendsTwo_54 (by decide) (rfl : Int32.toInt y108 = _) (rfl : Int32.toInt (fl (p.toInt).toNat) = _) (fun c116 => ?_) (fun c116 => ?_)
                    · obtain ⟨x117, ex117⟩ : ∃ y : Int32, y = y13 + 1 := ⟨_, rfl⟩
                      have hx117 : x117.toInt = (y13.toInt + 1) := by rw [ex117]; exact ti_add (rfl : Int32.toInt y13 = _) (show (1 : Int32).toInt = 1 by decide) (by omega) (by omega)
                      refine v_iinc (v := x117) (lv' := [(0, .ref (ad 68)), (1, .int p), (2, .int x), (3, .int y), (4, .int y2), (5, .int 0), (6, .int x117), (7, .int y108)]) C 6 [1, 2, 3, 4, 5, 6, 0, 7] dX9_mendsTwo_126 rfl (ex117.symm) (by decide) rfl ?_
                      refine v_goto C 20 dX9_mendsTwo_129 (by decide) ?_
                      refine v_sub (lv' := [(0, .ref (ad 68)), (1, .int p), (2, .int x), (3, .int y), (4, .int y2), (5, .int 0), (6, .int x117)]) [0, 1, 2, 3, 4, 5, 6] rfl ?_
                      exact ih17 _ 0 x117 hJ110 (by have := (show (0 : Int32).toInt = 0 by decide); have := hx117; omega) (by have := (show (0 : Int32).toInt = 0 by decide); have := hx117; omega) (by have := (show (0 : Int32).toInt = 0 by decide); have := hx117; omega) (by have := (show (0 : Int32).toInt = 0 by decide); have := hx117; omega)
                    · refine v_iload C 5 dX9_mendsTwo_57 rfl ?_
                      refine b_if_eq C 126 dX9_mendsTwo_59 (by decide) (show (0 : Int32).toInt = 0 by decide) (fun c118 => ?_) (fun c118 => absurd c118 (by decide))
                      obtain ⟨x119, ex119⟩ : ∃ y : Int32, y = y13 + 1 := ⟨_, rfl⟩
                      have hx119 : x119.toInt = (y13.toInt + 1) := by rw [ex119]; exact ti_add (rfl : Int32.toInt y13 = _) (show (1 : Int32).toInt = 1 by decide) (by omega) (by omega)
                      refine v_iinc (v := x119) (lv' := [(0, .ref (ad 68)), (1, .int p), (2, .int x), (3, .int y), (4, .int y2), (5, .int 0), (6, .int x119), (7, .int y108)]) C 6 [1, 2, 3, 4, 5, 6, 0, 7] dX9_mendsTwo_126 rfl (ex119.symm) (by decide) rfl ?_
                      refine v_goto C 20 dX9_mendsTwo_129 (by decide) ?_
                      refine v_sub (lv' := [(0, .ref (ad 68)), (1, .int p), (2, .int x), (3, .int y), (4, .int y2), (5, .int 0), (6, .int x119)]) [0, 1, 2, 3, 4, 5, 6] rfl ?_
                      exact ih17 _ 0 x119 hJ110 (by have := (show (0 : Int32).toInt = 0 by decide); have := hx119; omega) (by have := (show (0 : Int32).toInt = 0 by decide); have := hx119; omega) (by have := (show (0 : Int32).toInt = 0 by decide); have := hx119; omega) (by have := (show (0 : Int32).toInt = 0 by decide); have := hx119; omega)
                exact LP107 100000 _ x106 (hJ29.outB (k := 32) (by decide) (show (bd 32).1 ≤ (fl (p.toInt).toNat).toInt by omega) (show (fl (p.toInt).toNat).toInt ≤ (bd 32).2 by omega)) (by have := hx106; omega) (by have := hx106; omega)
        exact LP11 100000 _ 1 0 hJ4 (by have := (show (1 : Int32).toInt = 1 by decide); have := (show (0 : Int32).toInt = 0 by decide); omega) (by have := (show (1 : Int32).toInt = 1 by decide); have := (show (0 : Int32).toInt = 0 by decide); omega) (by have := (show (1 : Int32).toInt = 1 by decide); have := (show (0 : Int32).toInt = 0 by decide); omega) (by have := (show (1 : Int32).toInt = 1 by decide); have := (show (0 : Int32).toInt = 0 by decide); omega)
  exact LP1 100000 _ 0 hJ (by have := (show (0 : Int32).toInt = 0 by decide); omega) (by have := (show (0 : Int32).toInt = 0 by decide); omega)

set_option maxRecDepth 20000 in
theorem ty_X9_keepMended (l : Launch) (G : Gl) (ad : Nat → Nat) {Z : (Nat → va_E) → Prop} {kn : Int} {n : Nat} {ic md : Nat → Int32} {bd : Nat → Int × Int} {E0 E : Nat → va_E} (hJ : JY l Z kn G ad n ic md bd PT E0 E) (hf32 : (0 : Int) ≤ (bd 32).1 ∧ (bd 32).2 ≤ 10) (hf39 : ((0 : Int) ≤ (bd 39).1 ∧ (bd 39).2 ≤ 10) ∧ ((bd 39).1 ≤ 0 ∧ 10 ≤ (bd 39).2)) : CtV l G yX9_keepMended cX9_keepMended 2 0 0 (n) ad E [.ref (ad 68)] (fun E' => JY l Z kn G ad n ic md bd PT E0 E') := by
  refine CtV.of (by decide) (Nat.le_of_ble_eq_true rfl) (fun X A C => ?_)
  refine v_sub (lv' := [(0, .ref (ad 68))]) [0] rfl ?_
  have hn := hJ.hn
  have hz16 := hJ.1.2.2.2.2
  refine v_aload_n C 0 dX9_keepMended_0 rfl rfl ?_
  refine v_aload_n C 0 dX9_keepMended_1 rfl rfl ?_
  obtain ⟨im1, hM1, hb1⟩ := hJ.1.1
  have hq1 := hM1.b
  refine v_geti (v := im1 32) C 68 dX9_keepMended_2 fX9_200 (by omega) hM1.2.2.1 rfl rfl ?_
  have him1_32r : (bd 32).1 ≤ (im1 32).toInt ∧ (im1 32).toInt ≤ (bd 32).2 := hb1 32
  have him1_32 : (0 : Int) ≤ (im1 32).toInt ∧ (im1 32).toInt ≤ 10 := by omega
  refine v_puti C 68 dX9_keepMended_5 fX9_289 (by omega) hM1.2.2.1 rfl rfl rfl rfl (fun E2 hE2_68 oE2 => ?_)
  obtain ⟨hJ3, hM4, hb5⟩ := hJ.putN hM1 hb1 (k := 39) (v := (im1 32)) (by decide) (by unfold PT; omega) hE2_68 oE2
  refine v_iconst (v := 0) C dX9_keepMended_8 (by decide) ?_
  refine v_istore_n (lv' := [(0, .ref (ad 68)), (1, .int 0)]) C [1, 0] dX9_keepMended_9 rfl (by decide) rfl ?_
  have LP6 : ∀ (t : Nat) (E8 : Nat → va_E) (y7 : Int32), JY l Z kn G ad n ic md (upB bd 39 ((im1 32).toInt, (im1 32).toInt)) PT E0 E8 → ((0 : Int) ≤ y7.toInt ∧ y7.toInt ≤ 10) → 11 - y7.toInt < (t : Int) → V X G A 2 (QV X G A (n) ad (fun E' => JY l Z kn G ad n ic md bd PT E0 E')) n ad 0 0 E8 10 [(0, .ref (ad 68)), (1, .int y7)] [] := by
    intro t12
    induction t12 with
    | zero => intro E8 y7 hJ9 hy7 hm11; exfalso; omega
    | succ t12 ih10 =>
      intro E8 y7 hJ9 hy7 hm11
      refine v_iload_n C 1 dX9_keepMended_10 rfl rfl ?_
      refine v_aload_n C 0 dX9_keepMended_11 rfl rfl ?_
      obtain ⟨im13, hM13, hb13⟩ := hJ9.1.1
      have hq13 := hM13.b
      refine v_geti (v := im13 32) C 68 dX9_keepMended_12 fX9_200 (by omega) hM13.2.2.1 rfl rfl ?_
      have him13_32r : (bd 32).1 ≤ (im13 32).toInt ∧ (im13 32).toInt ≤ (bd 32).2 := hb13 32
      have him13_32 : (0 : Int) ≤ (im13 32).toInt ∧ (im13 32).toInt ≤ 10 := by omega
      refine b_icmp_ge C 60 dX9_keepMended_15 (by decide) (rfl : Int32.toInt y7 = _) (rfl : Int32.toInt (im13 32) = _) (fun c14 => ?_) (fun c14 => ?_)
      · exact v_vret C dX9_keepMended_60 rfl (hJ9.outB (k := 39) (by decide) (show (bd 39).1 ≤ (im1 32).toInt by omega) (show (im1 32).toInt ≤ (bd 39).2 by omega))
      · refine v_aload_n C 0 dX9_keepMended_18 rfl rfl ?_
        refine v_getr C 68 dX9_keepMended_19 fX9_103 (by omega) hM13.2.2.1 rfl rfl ?_
        refine v_iload_n C 1 dX9_keepMended_22 rfl rfl ?_
        refine v_aload_n C 0 dX9_keepMended_23 rfl rfl ?_
        refine v_getr C 68 dX9_keepMended_24 fX9_88 (by omega) hM13.2.2.1 rfl rfl ?_
        refine v_iload_n C 1 dX9_keepMended_27 rfl rfl ?_
        obtain ⟨f16, hE16, hb16⟩ := hJ9.1.2.1.getA (b := 89) (by omega) rfl
        refine v_ald (v := f16 (y7.toInt).toNat) C 89 dX9_keepMended_28 (by omega) hE16 (ti_in (rfl : Int32.toInt y7 = _) (by omega) (by omega)) (by rw [ti_cl (rfl : Int32.toInt y7 = _)]) ?_
        refine v_top (fun x17 _ => ?_)
        obtain ⟨f19, hE19, hb19⟩ := hJ9.1.2.1.getA (b := 94) (by omega) rfl
        refine v_ast C 94 dX9_keepMended_29 (by omega) hE19 (ti_in (rfl : Int32.toInt y7 = _) (by omega) (by omega)) (fun E20 hE20_94 oE20 => ?_)
        rw [ti_cl (rfl : Int32.toInt y7 = _)] at hE20_94
        have hE20_68 := (oE20 68 (by decide)).trans hM13.2.2.1
        have hE20_89 := (oE20 89 (by decide)).trans hE16
        have hJ21 := hJ9.with (hJ9.1.2.1.setA rfl (by unfold PT; omega) hb19 (ti_any x17) hE20_94 oE20) (oE20 68 (by decide)) (oE20 69 (by decide)) (oE20 70 (by decide)) (fun j _ _ => oE20 j (by omega))
        have hM22 := hM13.of (oE20 68 (by decide)) (oE20 69 (by decide)) (oE20 70 (by decide))
        refine v_aload_n C 0 dX9_keepMended_30 rfl rfl ?_
        refine v_getr C 68 dX9_keepMended_31 fX9_106 (by omega) hM22.2.2.1 rfl rfl ?_
        refine v_iload_n C 1 dX9_keepMended_34 rfl rfl ?_
        refine v_aload_n C 0 dX9_keepMended_35 rfl rfl ?_
        refine v_getr C 68 dX9_keepMended_36 fX9_91 (by omega) hM22.2.2.1 rfl rfl ?_
        refine v_iload_n C 1 dX9_keepMended_39 rfl rfl ?_
        obtain ⟨f24, hE24, hb24⟩ := hJ21.1.2.1.getA (b := 90) (by omega) rfl
        refine v_ald (v := f24 (y7.toInt).toNat) C 90 dX9_keepMended_40 (by omega) hE24 (ti_in (rfl : Int32.toInt y7 = _) (by omega) (by omega)) (by rw [ti_cl (rfl : Int32.toInt y7 = _)]) ?_
        refine v_top (fun x25 _ => ?_)
        obtain ⟨f27, hE27, hb27⟩ := hJ21.1.2.1.getA (b := 95) (by omega) rfl
        refine v_ast C 95 dX9_keepMended_41 (by omega) hE27 (ti_in (rfl : Int32.toInt y7 = _) (by omega) (by omega)) (fun E28 hE28_95 oE28 => ?_)
        rw [ti_cl (rfl : Int32.toInt y7 = _)] at hE28_95
        have hE28_68 := (oE28 68 (by decide)).trans hM22.2.2.1
        have hE28_89 := (oE28 89 (by decide)).trans hE20_89
        have hE28_90 := (oE28 90 (by decide)).trans hE24
        have hJ29 := hJ21.with (hJ21.1.2.1.setA rfl (by unfold PT; omega) hb27 (ti_any x25) hE28_95 oE28) (oE28 68 (by decide)) (oE28 69 (by decide)) (oE28 70 (by decide)) (fun j _ _ => oE28 j (by omega))
        have hM30 := hM22.of (oE28 68 (by decide)) (oE28 69 (by decide)) (oE28 70 (by decide))
        refine v_aload_n C 0 dX9_keepMended_42 rfl rfl ?_
        refine v_getr C 68 dX9_keepMended_43 fX9_109 (by omega) hM30.2.2.1 rfl rfl ?_
        refine v_iload_n C 1 dX9_keepMended_46 rfl rfl ?_
        refine v_aload_n C 0 dX9_keepMended_47 rfl rfl ?_
        refine v_getr C 68 dX9_keepMended_48 fX9_94 (by omega) hM30.2.2.1 rfl rfl ?_
        refine v_iload_n C 1 dX9_keepMended_51 rfl rfl ?_
        obtain ⟨f32, hE32, hb32⟩ := hJ29.1.2.1.getA (b := 91) (by omega) rfl
        refine v_ald (v := f32 (y7.toInt).toNat) C 91 dX9_keepMended_52 (by omega) hE32 (ti_in (rfl : Int32.toInt y7 = _) (by omega) (by omega)) (by rw [ti_cl (rfl : Int32.toInt y7 = _)]) ?_
        refine v_top (fun x33 _ => ?_)
        obtain ⟨f35, hE35, hb35⟩ := hJ29.1.2.1.getA (b := 96) (by omega) rfl
        refine v_ast C 96 dX9_keepMended_53 (by omega) hE35 (ti_in (rfl : Int32.toInt y7 = _) (by omega) (by omega)) (fun E36 hE36_96 oE36 => ?_)
        rw [ti_cl (rfl : Int32.toInt y7 = _)] at hE36_96
        have hE36_68 := (oE36 68 (by decide)).trans hM30.2.2.1
        have hE36_89 := (oE36 89 (by decide)).trans hE28_89
        have hE36_90 := (oE36 90 (by decide)).trans hE28_90
        have hE36_91 := (oE36 91 (by decide)).trans hE32
        have hJ37 := hJ29.with (hJ29.1.2.1.setA rfl (by unfold PT; omega) hb35 (ti_any x33) hE36_96 oE36) (oE36 68 (by decide)) (oE36 69 (by decide)) (oE36 70 (by decide)) (fun j _ _ => oE36 j (by omega))
        have hM38 := hM30.of (oE36 68 (by decide)) (oE36 69 (by decide)) (oE36 70 (by decide))
        obtain ⟨x39, ex39⟩ : ∃ y : Int32, y = y7 + 1 := ⟨_, rfl⟩
        have hx39 : x39.toInt = (y7.toInt + 1) := by rw [ex39]; exact ti_add (rfl : Int32.toInt y7 = _) (show (1 : Int32).toInt = 1 by decide) (by omega) (by omega)
        refine v_iinc (v := x39) (lv' := [(0, .ref (ad 68)), (1, .int x39)]) C 1 [1, 0] dX9_keepMended_54 rfl (ex39.symm) (by decide) rfl ?_
        refine v_goto C 10 dX9_keepMended_57 (by decide) ?_
        exact ih10 _ x39 hJ37 (by have := hx39; omega) (by have := hx39; omega)
  exact LP6 100000 _ 0 hJ3 (by have := (show (0 : Int32).toInt = 0 by decide); omega) (by have := (show (0 : Int32).toInt = 0 by decide); omega)

set_option maxRecDepth 20000 in
theorem ty_X9_mend (l : Launch) (G : Gl) (ad : Nat → Nat) {Z : (Nat → va_E) → Prop} {kn : Int} {n : Nat} {ic md : Nat → Int32} {bd : Nat → Int × Int} {E0 E : Nat → va_E} (hJ : JY l Z kn G ad n ic md bd PT E0 E) {gop gx gy fl : Nat → Int32} (hgo : E0 85 = aI G 60 gop) (hgx : E0 86 = aI G 60 gx) (hgy : E0 87 = aI G 60 gy) (hgl : E0 88 = aI G 6 fl) (hbl : ∀ k, 0 ≤ (fl k).toInt ∧ (fl k).toInt ≤ 10) (hLX : LXg gop gx) (hf32 : ((0 : Int) ≤ (bd 32).1 ∧ (bd 32).2 ≤ 10) ∧ ((bd 32).1 ≤ 0 ∧ 10 ≤ (bd 32).2)) (hf35 : ((0 : Int) ≤ (bd 35).1 ∧ (bd 35).2 ≤ 8) ∧ ((bd 35).1 ≤ 0 ∧ 8 ≤ (bd 35).2)) (hf41 : ((0 : Int) ≤ (bd 41).1 ∧ (bd 41).2 ≤ 40000) ∧ ((bd 41).1 ≤ 0 ∧ 40000 ≤ (bd 41).2)) (hf39 : ((0 : Int) ≤ (bd 39).1 ∧ (bd 39).2 ≤ 10) ∧ ((bd 39).1 ≤ 0 ∧ 10 ≤ (bd 39).2)) (p : Int32) (x : Int32) (y : Int32) (u : Int32) (v : Int32) : CtI l G yX9_mend cX9_mend 7 .int 12 298 (n) ad E [.ref (ad 68), .int p, .int x, .int y, .int u, .int v] (fun r E' => ((-2147483648 : Int) ≤ r.toInt ∧ r.toInt ≤ 2147483647) ∧ JY l Z kn G ad n ic md bd PT E0 E') := by
  refine CtI.of (by decide) (Nat.le_of_ble_eq_true rfl) (fun X A C => ?_)
  refine v_sub (lv' := [(0, .ref (ad 68)), (1, .int p), (2, .int x), (3, .int y), (4, .int u), (5, .int v)]) [0, 1, 2, 3, 4, 5] rfl ?_
  have hn := hJ.hn
  have hz16 := hJ.1.2.2.2.2
  refine v_iload_n C 1 dX9_mend_0 rfl rfl ?_
  refine v_cSp C dX9_mend_1 lX9_194 mX9_isProgram (ty_X9_isProgram l G ad hJ.self p) ⟨by decide, by decide⟩ rfl (Nat.le_of_ble_eq_true rfl) ⟨Nat.zero_le _, Nat.zero_le _⟩ (fun r1 hp2 => ?_)
  rcases hp2 with ⟨rfl, hp2⟩ | ⟨rfl, hp2⟩
  · refine b_if_eq C 29 dX9_mend_4 (by decide) (show (1 : Int32).toInt = 1 by decide) (fun c3 => absurd c3 (by decide)) (fun c3 => ?_)
    refine v_aload_n C 0 dX9_mend_7 rfl rfl ?_
    refine v_iload_n C 2 dX9_mend_8 rfl rfl ?_
    refine v_iload_n C 3 dX9_mend_9 rfl rfl ?_
    obtain ⟨im6, hM6, hb6⟩ := hJ.1.1
    have hq6 := hM6.b
    refine v_cVp C dX9_mend_10 lX9_259 mX9_isLaw 68 (by omega) hM6.2.2.1 (by decide) rfl (ty_X9_isLaw l G ad hJ.self x y) ⟨by decide, by decide⟩ rfl (Nat.le_of_ble_eq_true rfl) ⟨Nat.zero_le _, Nat.zero_le _⟩ (fun r4 hp5 => ?_)
    rcases hp5 with ⟨rfl, hp5⟩ | ⟨rfl, hp5⟩
    · refine b_if_eq C 29 dX9_mend_13 (by decide) (show (1 : Int32).toInt = 1 by decide) (fun c7 => absurd c7 (by decide)) (fun c7 => ?_)
      refine v_iload C 4 dX9_mend_16 rfl ?_
      refine v_iload C 5 dX9_mend_18 rfl ?_
      refine v_ldcw C dX9_mend_20 kX9_298 ?_
      refine v_cSp C dX9_mend_23 lX9_283 mX9_isRow (ty_X9_isRow l G ad hJ.self u v 100000 (show (0 : Int) ≤ Int32.toInt 100000 ∧ Int32.toInt 100000 ≤ 2000000 by decide)) ⟨by decide, by decide⟩ rfl (Nat.le_of_ble_eq_true rfl) ⟨Nat.zero_le _, Nat.zero_le _⟩ (fun r8 hp9 => ?_)
      have := (show (100000 : Int32).toInt = 100000 by decide)
      rcases hp9 with ⟨rfl, hp9⟩ | ⟨rfl, hp9⟩
      · refine b_if_ne C 31 dX9_mend_26 (by decide) (show (1 : Int32).toInt = 1 by decide) (fun c10 => ?_) (fun c10 => absurd c10 (by decide))
        refine v_aload_n C 0 dX9_mend_31 rfl rfl ?_
        refine v_iload C 4 dX9_mend_32 rfl ?_
        refine v_iload C 4 dX9_mend_34 rfl ?_
        refine v_iload C 5 dX9_mend_36 rfl ?_
        refine v_iadd C dX9_mend_38 ?_
        refine v_top (fun x11 ex11 => ?_)
        have hx11 : x11.toInt = (u.toInt + v.toInt) := by rw [ex11]; exact ti_add (rfl : Int32.toInt u = _) (rfl : Int32.toInt v = _) (by omega) (by omega)
        refine v_cVv C dX9_mend_39 lX9_280 mX9_findOdds 68 (by omega) hM6.2.2.1 (by decide) rfl (ty_X9_findOdds l G ad hJ.self (show ((0 : Int) ≤ (bd 41).1 ∧ (bd 41).2 ≤ 40000) ∧ ((bd 41).1 ≤ (0 : Int) ∧ 40000 ≤ (bd 41).2) by omega) u (show (0 : Int) ≤ Int32.toInt u ∧ Int32.toInt u ≤ 59999999 by omega) x11 (show (0 : Int) ≤ Int32.toInt x11 ∧ Int32.toInt x11 ≤ 59999999 by have := hx11; omega) (by omega)) ⟨by decide, by decide⟩ rfl (Nat.le_of_ble_eq_true rfl) ⟨Nat.zero_le _, Nat.zero_le _⟩ (fun E13 hJ15 => ?_)
        have hJ16 := hJ.trans (fun _ => PT_PR) hJ15
        refine v_aload_n C 0 dX9_mend_42 rfl rfl ?_
        refine v_iload_n C 1 dX9_mend_43 rfl rfl ?_
        obtain ⟨im20, hM20, hb20⟩ := hJ16.1.1
        have hq20 := hM20.b
        refine v_cVv C dX9_mend_44 lX9_219 mX9_take 68 (by omega) hM20.2.2.1 (by decide) rfl (ty_X9_take l G ad hJ16 hgo hgx hgy hgl hbl p (show (0 : Int) ≤ Int32.toInt p ∧ Int32.toInt p ≤ 5 by omega)) ⟨by decide, by decide⟩ rfl (Nat.le_of_ble_eq_true rfl) ⟨Nat.zero_le _, Nat.zero_le _⟩ (fun E17 hT19 => ?_)
        obtain ⟨fo19, fx19, fy19, h8919, h9019, h9119, hT19, hJ18⟩ := hT19
        have hbm19 := hbl (p.toInt).toNat
        have hox19 : OXm fo19 fx19 ((fl (p.toInt).toNat).toInt).toNat := fun j hj hq => by have q := hT19 j hj; rw [q.1] at hq; rw [q.2.1]; exact hLX _ (by omega) hq
        refine v_aload_n C 0 dX9_mend_47 rfl rfl ?_
        refine v_iload_n C 2 dX9_mend_48 rfl rfl ?_
        refine v_iload_n C 3 dX9_mend_49 rfl rfl ?_
        obtain ⟨im26, hM26, hb26⟩ := hJ18.1.1
        have hq26 := hM26.b
        refine v_cVi C dX9_mend_50 lX9_295 mX9_isRight 68 (by omega) hM26.2.2.1 (by decide) rfl (ty_X9_isRight l G ad hJ18.self h8919 h9019 (show ((fl (p.toInt).toNat).toInt).toNat ≤ 10 by omega) hox19 (show ((((fl (p.toInt).toNat).toInt).toNat : Nat) : Int) ≤ (fl (p.toInt).toNat).toInt ∧ (fl (p.toInt).toNat).toInt ≤ ((((fl (p.toInt).toNat).toInt).toNat : Nat) : Int) by omega) (show (0 : Int) ≤ (bd 41).1 ∧ (bd 41).2 ≤ 40000 by omega) x (show (0 : Int) ≤ Int32.toInt x ∧ Int32.toInt x ≤ 2147483647 by have := ti_any x; omega) y (by omega)) ⟨by decide, by decide⟩ rfl (Nat.le_of_ble_eq_true rfl) ⟨Nat.zero_le _, Nat.zero_le _⟩ (fun r21 E22 hp23 => ?_)
        obtain ⟨hp23, hJ24⟩ := hp23
        have hJ25 := hJ18.trans (fun _ => PT_PR) hJ24
        have e27 := (hJ24.1.2.1.1 89 (by unfold PR; omega)).trans h8919
        have e28 := (hJ24.1.2.1.1 90 (by unfold PR; omega)).trans h9019
        have e29 := (hJ24.1.2.1.1 91 (by unfold PR; omega)).trans h9119
        rcases hp23 with rfl | rfl
        · refine b_if_eq C 60 dX9_mend_53 (by decide) (show (0 : Int32).toInt = 0 by decide) (fun c30 => ?_) (fun c30 => absurd c30 (by decide))
          refine v_aload_n C 0 dX9_mend_60 rfl rfl ?_
          refine v_iload_n C 1 dX9_mend_61 rfl rfl ?_
          refine v_iload_n C 2 dX9_mend_62 rfl rfl ?_
          refine v_iload_n C 3 dX9_mend_63 rfl rfl ?_
          have hJ31 := ((hJ25.outB (k := 35) (by decide) (show (bd 35).1 ≤ 0 by omega) (show 8 ≤ (bd 35).2 by omega)).outB (k := 32) (by decide) (show (bd 32).1 ≤ (fl (p.toInt).toNat).toInt by omega) (show (fl (p.toInt).toNat).toInt ≤ (bd 32).2 by omega))
          obtain ⟨im36, hM36, hb36⟩ := hJ31.1.1
          have hq36 := hM36.b
          refine v_cVi C dX9_mend_64 lX9_299 mX9_mendsOne 68 (by omega) hM36.2.2.1 (by decide) rfl (ty_X9_mendsOne l G ad hJ31 hgo hgx hgy hgl hbl hLX (show ((0 : Int) ≤ (bd 32).1 ∧ (bd 32).2 ≤ 10) ∧ ((bd 32).1 ≤ (0 : Int) ∧ 10 ≤ (bd 32).2) by omega) (show ((0 : Int) ≤ (bd 35).1 ∧ (bd 35).2 ≤ 8) ∧ ((bd 35).1 ≤ (0 : Int) ∧ 8 ≤ (bd 35).2) by omega) (show ((0 : Int) ≤ (bd 41).1 ∧ (bd 41).2 ≤ 40000) ∧ ((bd 41).1 ≤ (0 : Int) ∧ 40000 ≤ (bd 41).2) by omega) p (show (0 : Int) ≤ Int32.toInt p ∧ Int32.toInt p ≤ 5 by omega) x (show (0 : Int) ≤ Int32.toInt x ∧ Int32.toInt x ≤ 2147483647 by have := ti_any x; omega) y (by omega)) ⟨by decide, by decide⟩ rfl (Nat.le_of_ble_eq_true rfl) ⟨Nat.zero_le _, Nat.zero_le _⟩ (fun r32 E33 hp34 => ?_)
          obtain ⟨hp34, hJ35⟩ := hp34
          rcases hp34 with rfl | rfl
          · refine b_if_eq C 74 dX9_mend_67 (by decide) (show (0 : Int32).toInt = 0 by decide) (fun c37 => ?_) (fun c37 => absurd c37 (by decide))
            refine v_aload_n C 0 dX9_mend_74 rfl rfl ?_
            refine v_iload_n C 1 dX9_mend_75 rfl rfl ?_
            refine v_iload_n C 2 dX9_mend_76 rfl rfl ?_
            refine v_iload_n C 3 dX9_mend_77 rfl rfl ?_
            obtain ⟨im42, hM42, hb42⟩ := hJ35.1.1
            have hq42 := hM42.b
            refine v_cVi C dX9_mend_78 lX9_302 mX9_mendsTwo 68 (by omega) hM42.2.2.1 (by decide) rfl (ty_X9_mendsTwo l G ad hJ35 hgo hgx hgy hgl hbl hLX (show ((0 : Int) ≤ (bd 32).1 ∧ (bd 32).2 ≤ 10) ∧ ((bd 32).1 ≤ (0 : Int) ∧ 10 ≤ (bd 32).2) by omega) (show ((0 : Int) ≤ (bd 35).1 ∧ (bd 35).2 ≤ 8) ∧ ((bd 35).1 ≤ (0 : Int) ∧ 8 ≤ (bd 35).2) by omega) (show ((0 : Int) ≤ (bd 41).1 ∧ (bd 41).2 ≤ 40000) ∧ ((bd 41).1 ≤ (0 : Int) ∧ 40000 ≤ (bd 41).2) by omega) p (show (0 : Int) ≤ Int32.toInt p ∧ Int32.toInt p ≤ 5 by omega) x (show (0 : Int) ≤ Int32.toInt x ∧ Int32.toInt x ≤ 2147483647 by have := ti_any x; omega) y (by omega)) ⟨by decide, by decide⟩ rfl (Nat.le_of_ble_eq_true rfl) ⟨Nat.zero_le _, Nat.zero_le _⟩ (fun r38 E39 hp40 => ?_)
            obtain ⟨hp40, hJ41⟩ := hp40
            rcases hp40 with rfl | rfl
            · refine b_if_eq C 88 dX9_mend_81 (by decide) (show (0 : Int32).toInt = 0 by decide) (fun c43 => ?_) (fun c43 => absurd c43 (by decide))
              refine v_bipush (v := (-6)) C dX9_mend_88 (by decide) ?_
              refine v_istore (lv' := [(0, .ref (ad 68)), (1, .int p), (2, .int x), (3, .int y), (4, .int u), (5, .int v), (6, .int (-6))]) C [1, 2, 3, 4, 5, 6, 0] dX9_mend_90 (by decide) rfl ?_
              refine v_iload C 6 dX9_mend_92 rfl ?_
              refine b_if_lt C 101 dX9_mend_94 (by decide) (show ((-6) : Int32).toInt = (-6) by decide) (fun c44 => ?_) (fun c44 => absurd c44 (by decide))
              refine v_iload C 6 dX9_mend_101 rfl ?_
              exact v_ret C dX9_mend_103 rfl rfl ⟨(ti_any (-6)), hJ41⟩
            · refine b_if_eq C 88 dX9_mend_81 (by decide) (show (1 : Int32).toInt = 1 by decide) (fun c45 => absurd c45 (by decide)) (fun c45 => ?_)
              refine v_iconst (v := 2) C dX9_mend_84 (by decide) ?_
              refine v_goto C 90 dX9_mend_85 (by decide) ?_
              refine v_istore (lv' := [(0, .ref (ad 68)), (1, .int p), (2, .int x), (3, .int y), (4, .int u), (5, .int v), (6, .int 2)]) C [1, 2, 3, 4, 5, 6, 0] dX9_mend_90 (by decide) rfl ?_
              refine v_iload C 6 dX9_mend_92 rfl ?_
              refine b_if_lt C 101 dX9_mend_94 (by decide) (show (2 : Int32).toInt = 2 by decide) (fun c46 => absurd c46 (by decide)) (fun c46 => ?_)
              refine v_aload_n C 0 dX9_mend_97 rfl rfl ?_
              obtain ⟨im51, hM51, hb51⟩ := hJ41.1.1
              have hq51 := hM51.b
              refine v_cVv C dX9_mend_98 lX9_305 mX9_keepMended 68 (by omega) hM51.2.2.1 (by decide) rfl (ty_X9_keepMended l G ad hJ41 (show (0 : Int) ≤ (bd 32).1 ∧ (bd 32).2 ≤ 10 by omega) (show ((0 : Int) ≤ (bd 39).1 ∧ (bd 39).2 ≤ 10) ∧ ((bd 39).1 ≤ (0 : Int) ∧ 10 ≤ (bd 39).2) by omega) ) ⟨by decide, by decide⟩ rfl (Nat.le_of_ble_eq_true rfl) ⟨Nat.zero_le _, Nat.zero_le _⟩ (fun E48 hJ50 => ?_)
              refine v_iload C 6 dX9_mend_101 rfl ?_
              exact v_ret C dX9_mend_103 rfl rfl ⟨(ti_any 2), hJ50⟩
          · refine b_if_eq C 74 dX9_mend_67 (by decide) (show (1 : Int32).toInt = 1 by decide) (fun c52 => absurd c52 (by decide)) (fun c52 => ?_)
            refine v_iconst (v := 1) C dX9_mend_70 (by decide) ?_
            refine v_goto C 90 dX9_mend_71 (by decide) ?_
            refine v_istore (lv' := [(0, .ref (ad 68)), (1, .int p), (2, .int x), (3, .int y), (4, .int u), (5, .int v), (6, .int 1)]) C [1, 2, 3, 4, 5, 6, 0] dX9_mend_90 (by decide) rfl ?_
            refine v_iload C 6 dX9_mend_92 rfl ?_
            refine b_if_lt C 101 dX9_mend_94 (by decide) (show (1 : Int32).toInt = 1 by decide) (fun c53 => absurd c53 (by decide)) (fun c53 => ?_)
            refine v_aload_n C 0 dX9_mend_97 rfl rfl ?_
            obtain ⟨im58, hM58, hb58⟩ := hJ35.1.1
            have hq58 := hM58.b
            refine v_cVv C dX9_mend_98 lX9_305 mX9_keepMended 68 (by omega) hM58.2.2.1 (by decide) rfl (ty_X9_keepMended l G ad hJ35 (show (0 : Int) ≤ (bd 32).1 ∧ (bd 32).2 ≤ 10 by omega) (show ((0 : Int) ≤ (bd 39).1 ∧ (bd 39).2 ≤ 10) ∧ ((bd 39).1 ≤ (0 : Int) ∧ 10 ≤ (bd 39).2) by omega) ) ⟨by decide, by decide⟩ rfl (Nat.le_of_ble_eq_true rfl) ⟨Nat.zero_le _, Nat.zero_le _⟩ (fun E55 hJ57 => ?_)
            refine v_iload C 6 dX9_mend_101 rfl ?_
            exact v_ret C dX9_mend_103 rfl rfl ⟨(ti_any 1), hJ57⟩
        · refine b_if_eq C 60 dX9_mend_53 (by decide) (show (1 : Int32).toInt = 1 by decide) (fun c59 => absurd c59 (by decide)) (fun c59 => ?_)
          refine v_iconst (v := 0) C dX9_mend_56 (by decide) ?_
          refine v_goto C 90 dX9_mend_57 (by decide) ?_
          refine v_istore (lv' := [(0, .ref (ad 68)), (1, .int p), (2, .int x), (3, .int y), (4, .int u), (5, .int v), (6, .int 0)]) C [1, 2, 3, 4, 5, 6, 0] dX9_mend_90 (by decide) rfl ?_
          refine v_iload C 6 dX9_mend_92 rfl ?_
          refine b_if_lt C 101 dX9_mend_94 (by decide) (show (0 : Int32).toInt = 0 by decide) (fun c60 => absurd c60 (by decide)) (fun c60 => ?_)
          refine v_aload_n C 0 dX9_mend_97 rfl rfl ?_
          have hJ61 := ((hJ25.outB (k := 35) (by decide) (show (bd 35).1 ≤ 0 by omega) (show 8 ≤ (bd 35).2 by omega)).outB (k := 32) (by decide) (show (bd 32).1 ≤ (fl (p.toInt).toNat).toInt by omega) (show (fl (p.toInt).toNat).toInt ≤ (bd 32).2 by omega))
          obtain ⟨im66, hM66, hb66⟩ := hJ61.1.1
          have hq66 := hM66.b
          refine v_cVv C dX9_mend_98 lX9_305 mX9_keepMended 68 (by omega) hM66.2.2.1 (by decide) rfl (ty_X9_keepMended l G ad hJ61 (show (0 : Int) ≤ (bd 32).1 ∧ (bd 32).2 ≤ 10 by omega) (show ((0 : Int) ≤ (bd 39).1 ∧ (bd 39).2 ≤ 10) ∧ ((bd 39).1 ≤ (0 : Int) ∧ 10 ≤ (bd 39).2) by omega) ) ⟨by decide, by decide⟩ rfl (Nat.le_of_ble_eq_true rfl) ⟨Nat.zero_le _, Nat.zero_le _⟩ (fun E63 hJ65 => ?_)
          refine v_iload C 6 dX9_mend_101 rfl ?_
          exact v_ret C dX9_mend_103 rfl rfl ⟨(ti_any 0), hJ65⟩
      · refine b_if_ne C 31 dX9_mend_26 (by decide) (show (0 : Int32).toInt = 0 by decide) (fun c67 => absurd c67 (by decide)) (fun c67 => ?_)
        refine v_iconst (v := (-1)) C dX9_mend_29 (by decide) ?_
        exact v_ret C dX9_mend_30 rfl rfl ⟨(ti_any (-1)), hJ⟩
    · refine b_if_eq C 29 dX9_mend_13 (by decide) (show (0 : Int32).toInt = 0 by decide) (fun c68 => ?_) (fun c68 => absurd c68 (by decide))
      refine v_iconst (v := (-1)) C dX9_mend_29 (by decide) ?_
      exact v_ret C dX9_mend_30 rfl rfl ⟨(ti_any (-1)), hJ⟩
  · refine b_if_eq C 29 dX9_mend_4 (by decide) (show (0 : Int32).toInt = 0 by decide) (fun c69 => ?_) (fun c69 => absurd c69 (by decide))
    refine v_iconst (v := (-1)) C dX9_mend_29 (by decide) ?_
    exact v_ret C dX9_mend_30 rfl rfl ⟨(ti_any (-1)), hJ⟩

set_option maxRecDepth 20000 in
theorem ty_X9_mended (l : Launch) (G : Gl) (ad : Nat → Nat) {Z : (Nat → va_E) → Prop} {kn : Int} {n : Nat} {ic md : Nat → Int32} {bd : Nat → Int × Int} {E0 E : Nat → va_E} (hJ : JY l Z kn G ad n ic md bd PR E0 E) (hf39 : (0 : Int) ≤ (bd 39).1 ∧ (bd 39).2 ≤ 10) (x : Int32) (y : Int32) : CtI l G yX9_mended cX9_mended 3 .int 1 22 (n) ad E [.ref (ad 68), .int x, .int y] (fun r E' => ((-2147483648 : Int) ≤ r.toInt ∧ r.toInt ≤ 2147483647) ∧ E = E') := by
  refine CtI.of (by decide) (Nat.le_of_ble_eq_true rfl) (fun X A C => ?_)
  refine v_sub (lv' := [(0, .ref (ad 68)), (1, .int x), (2, .int y)]) [0, 1, 2] rfl ?_
  have hn := hJ.hn
  have hz16 := hJ.1.2.2.2.2
  refine v_iload_n C 1 dX9_mended_0 rfl rfl ?_
  refine b_if_lt C 21 dX9_mended_1 (by decide) (rfl : Int32.toInt x = _) (fun c1 => ?_) (fun c1 => ?_)
  · refine v_ldc C dX9_mended_21 kX9_252 ?_
    exact v_ret C dX9_mended_23 rfl rfl ⟨(ti_any (-2000000000)), rfl⟩
  · refine v_iload_n C 1 dX9_mended_4 rfl rfl ?_
    refine v_aload_n C 0 dX9_mended_5 rfl rfl ?_
    obtain ⟨im2, hM2, hb2⟩ := hJ.1.1
    have hq2 := hM2.b
    refine v_geti (v := im2 39) C 68 dX9_mended_6 fX9_289 (by omega) hM2.2.2.1 rfl rfl ?_
    have him2_39r := hb2 39
    have him2_39 : (0 : Int) ≤ (im2 39).toInt ∧ (im2 39).toInt ≤ 10 := by have := hb2 39; omega
    refine b_icmp_ge C 21 dX9_mended_9 (by decide) (rfl : Int32.toInt x = _) (rfl : Int32.toInt (im2 39) = _) (fun c3 => ?_) (fun c3 => ?_)
    · refine v_ldc C dX9_mended_21 kX9_252 ?_
      exact v_ret C dX9_mended_23 rfl rfl ⟨(ti_any (-2000000000)), rfl⟩
    · refine v_iload_n C 2 dX9_mended_12 rfl rfl ?_
      refine v_iconst (v := 0) C dX9_mended_13 (by decide) ?_
      refine v_iconst (v := 2) C dX9_mended_14 (by decide) ?_
      refine v_cSp C dX9_mended_15 lX9_131 mX9_within (ty_X9_within l G ad hJ y 0 2) ⟨by decide, by decide⟩ rfl (Nat.le_of_ble_eq_true rfl) ⟨Nat.zero_le _, Nat.zero_le _⟩ (fun r4 hp5 => ?_)
      have := (show (0 : Int32).toInt = 0 by decide)
      have := (show (2 : Int32).toInt = 2 by decide)
      rcases hp5 with ⟨rfl, hp5⟩ | ⟨rfl, hp5⟩
      · refine b_if_ne C 24 dX9_mended_18 (by decide) (show (1 : Int32).toInt = 1 by decide) (fun c6 => ?_) (fun c6 => absurd c6 (by decide))
        refine v_iload_n C 2 dX9_mended_24 rfl rfl ?_
        refine b_if_ne C 37 dX9_mended_25 (by decide) (rfl : Int32.toInt y = _) (fun c7 => ?_) (fun c7 => ?_)
        · refine v_iload_n C 2 dX9_mended_37 rfl rfl ?_
          refine v_iconst (v := 1) C dX9_mended_38 (by decide) ?_
          refine b_icmp_ne C 51 dX9_mended_39 (by decide) (rfl : Int32.toInt y = _) (show (1 : Int32).toInt = 1 by decide) (fun c8 => ?_) (fun c8 => ?_)
          · refine v_aload_n C 0 dX9_mended_51 rfl rfl ?_
            refine v_getr C 68 dX9_mended_52 fX9_109 (by omega) hM2.2.2.1 rfl rfl ?_
            refine v_iload_n C 1 dX9_mended_55 rfl rfl ?_
            obtain ⟨f10, hE10, hb10⟩ := hJ.1.2.1.getA (b := 96) (by omega) rfl
            refine v_ald (v := f10 (x.toInt).toNat) C 96 dX9_mended_56 (by omega) hE10 (ti_in (rfl : Int32.toInt x = _) (by omega) (by omega)) (by rw [ti_cl (rfl : Int32.toInt x = _)]) ?_
            refine v_top (fun x11 _ => ?_)
            exact v_ret C dX9_mended_57 rfl rfl ⟨(ti_any x11), rfl⟩
          · refine v_aload_n C 0 dX9_mended_42 rfl rfl ?_
            refine v_getr C 68 dX9_mended_43 fX9_106 (by omega) hM2.2.2.1 rfl rfl ?_
            refine v_iload_n C 1 dX9_mended_46 rfl rfl ?_
            obtain ⟨f13, hE13, hb13⟩ := hJ.1.2.1.getA (b := 95) (by omega) rfl
            refine v_ald (v := f13 (x.toInt).toNat) C 95 dX9_mended_47 (by omega) hE13 (ti_in (rfl : Int32.toInt x = _) (by omega) (by omega)) (by rw [ti_cl (rfl : Int32.toInt x = _)]) ?_
            refine v_top (fun x14 _ => ?_)
            refine v_goto C 57 dX9_mended_48 (by decide) ?_
            exact v_ret C dX9_mended_57 rfl rfl ⟨(ti_any x14), rfl⟩
        · refine v_aload_n C 0 dX9_mended_28 rfl rfl ?_
          refine v_getr C 68 dX9_mended_29 fX9_103 (by omega) hM2.2.2.1 rfl rfl ?_
          refine v_iload_n C 1 dX9_mended_32 rfl rfl ?_
          obtain ⟨f16, hE16, hb16⟩ := hJ.1.2.1.getA (b := 94) (by omega) rfl
          refine v_ald (v := f16 (x.toInt).toNat) C 94 dX9_mended_33 (by omega) hE16 (ti_in (rfl : Int32.toInt x = _) (by omega) (by omega)) (by rw [ti_cl (rfl : Int32.toInt x = _)]) ?_
          refine v_top (fun x17 _ => ?_)
          refine v_goto C 57 dX9_mended_34 (by decide) ?_
          exact v_ret C dX9_mended_57 rfl rfl ⟨(ti_any x17), rfl⟩
      · refine b_if_ne C 24 dX9_mended_18 (by decide) (show (0 : Int32).toInt = 0 by decide) (fun c18 => absurd c18 (by decide)) (fun c18 => ?_)
        refine v_ldc C dX9_mended_21 kX9_252 ?_
        exact v_ret C dX9_mended_23 rfl rfl ⟨(ti_any (-2000000000)), rfl⟩

set_option maxRecDepth 20000 in
theorem ty_X9_meetings (l : Launch) (G : Gl) (ad : Nat → Nat) {Z : (Nat → va_E) → Prop} {kn : Int} {n : Nat} {ic md : Nat → Int32} {bd : Nat → Int × Int} {E0 E : Nat → va_E} (hJ : JY l Z kn G ad n ic md bd PR E0 E) (x : Int32) (y : Int32) (z : Int32) (u : Int32) (v : Int32) : CtI l G yX9_meetings cX9_meetings 9 .int 5 122 (n) ad E [.ref (ad 68), .int x, .int y, .int z, .int u, .int v] (fun r E' => ((-2147483648 : Int) ≤ r.toInt ∧ r.toInt ≤ 2147483647) ∧ JY l Z kn G ad n ic md bd PR E0 E') := by
  refine CtI.of (by decide) (Nat.le_of_ble_eq_true rfl) (fun X A C => ?_)
  refine v_sub (lv' := [(0, .ref (ad 68)), (1, .int x), (2, .int y), (3, .int z), (4, .int u), (5, .int v)]) [0, 1, 2, 3, 4, 5] rfl ?_
  have hn := hJ.hn
  have hz16 := hJ.1.2.2.2.2
  refine v_aload_n C 0 dX9_meetings_0 rfl rfl ?_
  refine v_iload_n C 1 dX9_meetings_1 rfl rfl ?_
  obtain ⟨im3, hM3, hb3⟩ := hJ.1.1
  have hq3 := hM3.b
  refine v_cVp C dX9_meetings_2 lX9_162 mX9_isZone 68 (by omega) hM3.2.2.1 (by decide) rfl (ty_X9_isZone l G ad hJ x) ⟨by decide, by decide⟩ rfl (Nat.le_of_ble_eq_true rfl) ⟨Nat.zero_le _, Nat.zero_le _⟩ (fun r1 hp2 => ?_)
  rcases hp2 with ⟨rfl, hp2⟩ | ⟨rfl, hp2⟩
  · refine b_if_eq C 76 dX9_meetings_5 (by decide) (show (1 : Int32).toInt = 1 by decide) (fun c4 => absurd c4 (by decide)) (fun c4 => ?_)
    refine v_iload_n C 2 dX9_meetings_8 rfl rfl ?_
    refine b_if_lt C 76 dX9_meetings_9 (by decide) (rfl : Int32.toInt y = _) (fun c5 => ?_) (fun c5 => ?_)
    · refine v_iconst (v := (-1)) C dX9_meetings_76 (by decide) ?_
      exact v_ret C dX9_meetings_77 rfl rfl ⟨(ti_any (-1)), hJ⟩
    · refine v_iload_n C 2 dX9_meetings_12 rfl rfl ?_
      refine v_bipush (v := 10) C dX9_meetings_13 (by decide) ?_
      refine v_idiv C dX9_meetings_15 (by decide) ?_
      have := ti_any y
      refine v_top (fun x6 ex6 => ?_)
      have hx6 : x6.toInt = (y.toInt / 10) := by rw [ex6]; exact ti_div (rfl : Int32.toInt y = _) (show (10 : Int32).toInt = 10 by decide) (by omega) (by omega)
      refine v_sipush (v := 1440) C dX9_meetings_16 (by decide) ?_
      refine b_icmp_ge C 76 dX9_meetings_19 (by decide) hx6 (show (1440 : Int32).toInt = 1440 by decide) (fun c7 => ?_) (fun c7 => ?_)
      · refine v_iconst (v := (-1)) C dX9_meetings_76 (by decide) ?_
        exact v_ret C dX9_meetings_77 rfl rfl ⟨(ti_any (-1)), hJ⟩
      · refine v_iload_n C 2 dX9_meetings_22 rfl rfl ?_
        refine v_bipush (v := 10) C dX9_meetings_23 (by decide) ?_
        refine v_irem C dX9_meetings_25 (by decide) ?_
        have := ti_any y
        refine v_top (fun x8 ex8 => ?_)
        have hx8 : x8.toInt = (y.toInt % 10) := by rw [ex8]; exact ti_rem (rfl : Int32.toInt y = _) (show (10 : Int32).toInt = 10 by decide) (by omega) (by omega)
        refine v_aload_n C 0 dX9_meetings_26 rfl rfl ?_
        refine v_geti (v := im3 4) C 68 dX9_meetings_27 fX9_23 (by omega) hM3.2.2.1 rfl rfl ?_
        refine b_icmp_ge C 76 dX9_meetings_30 (by decide) hx8 (rfl : Int32.toInt (im3 4) = _) (fun c9 => ?_) (fun c9 => ?_)
        · refine v_iconst (v := (-1)) C dX9_meetings_76 (by decide) ?_
          exact v_ret C dX9_meetings_77 rfl rfl ⟨(ti_any (-1)), hJ⟩
        · refine v_aload_n C 0 dX9_meetings_33 rfl rfl ?_
          refine v_iload_n C 3 dX9_meetings_34 rfl rfl ?_
          refine v_cVi C dX9_meetings_35 lX9_141 mX9_isDay 68 (by omega) hM3.2.2.1 (by decide) rfl (d_isDay l G _ ad _ hn hM3 z) ⟨by decide, by decide⟩ rfl (Nat.le_of_ble_eq_true rfl) ⟨Nat.zero_le _, Nat.zero_le _⟩ (fun r10 E11 hq12 => ?_)
          obtain ⟨hq12, hq12m⟩ := hq12
          have hJ13 := hJ.mr hb3 (by unfold PR; omega) (by unfold PR; omega) hq12m
          have hcyr10 := cal_y hM3.2.1
          rcases hq12 with ⟨rfl, hq12⟩ | ⟨rfl, hq12⟩
          · refine b_if_eq C 76 dX9_meetings_38 (by decide) (show (1 : Int32).toInt = 1 by decide) (fun c14 => absurd c14 (by decide)) (fun c14 => ?_)
            refine v_aload_n C 0 dX9_meetings_41 rfl rfl ?_
            refine v_iload C 4 dX9_meetings_42 rfl ?_
            obtain ⟨im19, hM19, hb19⟩ := hJ13.1.1
            have hq19 := hM19.b
            refine v_cVi C dX9_meetings_44 lX9_141 mX9_isDay 68 (by omega) hM19.2.2.1 (by decide) rfl (d_isDay l G _ ad _ hn hM19 u) ⟨by decide, by decide⟩ rfl (Nat.le_of_ble_eq_true rfl) ⟨Nat.zero_le _, Nat.zero_le _⟩ (fun r15 E16 hq17 => ?_)
            obtain ⟨hq17, hq17m⟩ := hq17
            have hJ18 := hJ13.mr hb19 (by unfold PR; omega) (by unfold PR; omega) hq17m
            have hcyr15 := cal_y hM19.2.1
            rcases hq17 with ⟨rfl, hq17⟩ | ⟨rfl, hq17⟩
            · refine b_if_eq C 76 dX9_meetings_47 (by decide) (show (1 : Int32).toInt = 1 by decide) (fun c20 => absurd c20 (by decide)) (fun c20 => ?_)
              refine v_iload_n C 3 dX9_meetings_50 rfl rfl ?_
              refine v_iload C 4 dX9_meetings_51 rfl ?_
              refine b_icmp_gt C 76 dX9_meetings_53 (by decide) (rfl : Int32.toInt z = _) (rfl : Int32.toInt u = _) (fun c21 => ?_) (fun c21 => ?_)
              · refine v_iconst (v := (-1)) C dX9_meetings_76 (by decide) ?_
                exact v_ret C dX9_meetings_77 rfl rfl ⟨(ti_any (-1)), hJ18⟩
              · refine v_iload C 4 dX9_meetings_56 rfl ?_
                refine v_iload_n C 3 dX9_meetings_58 rfl rfl ?_
                refine v_isub C dX9_meetings_59 ?_
                refine v_top (fun x22 ex22 => ?_)
                have hx22 : x22.toInt = (u.toInt - z.toInt) := by rw [ex22]; exact ti_sub (rfl : Int32.toInt u = _) (rfl : Int32.toInt z = _) (by omega) (by omega)
                refine v_sipush (v := 4000) C dX9_meetings_60 (by decide) ?_
                refine b_icmp_gt C 76 dX9_meetings_63 (by decide) hx22 (show (4000 : Int32).toInt = 4000 by decide) (fun c23 => ?_) (fun c23 => ?_)
                · refine v_iconst (v := (-1)) C dX9_meetings_76 (by decide) ?_
                  exact v_ret C dX9_meetings_77 rfl rfl ⟨(ti_any (-1)), hJ18⟩
                · refine v_iload C 5 dX9_meetings_66 rfl ?_
                  refine v_iconst (v := 0) C dX9_meetings_68 (by decide) ?_
                  refine v_iconst (v := 2) C dX9_meetings_69 (by decide) ?_
                  refine v_cSp C dX9_meetings_70 lX9_131 mX9_within (ty_X9_within l G ad hJ18 v 0 2) ⟨by decide, by decide⟩ rfl (Nat.le_of_ble_eq_true rfl) ⟨Nat.zero_le _, Nat.zero_le _⟩ (fun r24 hp25 => ?_)
                  have := (show (0 : Int32).toInt = 0 by decide)
                  have := (show (2 : Int32).toInt = 2 by decide)
                  rcases hp25 with ⟨rfl, hp25⟩ | ⟨rfl, hp25⟩
                  · refine b_if_ne C 78 dX9_meetings_73 (by decide) (show (1 : Int32).toInt = 1 by decide) (fun c26 => ?_) (fun c26 => absurd c26 (by decide))
                    refine v_iconst (v := 0) C dX9_meetings_78 (by decide) ?_
                    refine v_istore (lv' := [(0, .ref (ad 68)), (1, .int x), (2, .int y), (3, .int z), (4, .int u), (5, .int v), (6, .int 0)]) C [1, 2, 3, 4, 5, 6, 0] dX9_meetings_79 (by decide) rfl ?_
                    refine v_iload_n C 3 dX9_meetings_81 rfl rfl ?_
                    refine v_istore (lv' := [(0, .ref (ad 68)), (1, .int x), (2, .int y), (3, .int z), (4, .int u), (5, .int v), (6, .int 0), (7, .int z)]) C [1, 2, 3, 4, 5, 6, 7, 0] dX9_meetings_82 (by decide) rfl ?_
                    have LP27 : ∀ (t : Nat) (E30 : Nat → va_E) (y28 : Int32) (y29 : Int32), JY l Z kn G ad n ic md bd PR E0 E30 → ((0 : Int) ≤ y29.toInt ∧ y29.toInt ≤ 48100) → 48101 - y29.toInt < (t : Int) → V X G A 9 (QI X G A (n) ad (fun r E' => ((-2147483648 : Int) ≤ r.toInt ∧ r.toInt ≤ 2147483647) ∧ JY l Z kn G ad n ic md bd PR E0 E')) n ad 0 0 E30 84 [(0, .ref (ad 68)), (1, .int x), (2, .int y), (4, .int u), (5, .int v), (6, .int y28), (7, .int y29)] [] := by
                      intro t34
                      induction t34 with
                      | zero => intro E30 y28 y29 hJ31 hy29 hm33; exfalso; omega
                      | succ t34 ih32 =>
                        intro E30 y28 y29 hJ31 hy29 hm33
                        refine v_iload C 6 dX9_meetings_84 rfl ?_
                        refine v_iload C 3 dX9_meetings_86 rfl ?_
                        refine b_icmp_gt C 164 dX9_meetings_88 (by decide) (rfl : Int32.toInt y29 = _) (rfl : Int32.toInt u = _) (fun c35 => ?_) (fun c35 => ?_)
                        · refine v_iload C 5 dX9_meetings_164 rfl ?_
                          exact v_ret C dX9_meetings_166 rfl rfl ⟨(ti_any y28), hJ31⟩
                        · refine v_aload_n C 0 dX9_meetings_91 rfl rfl ?_
                          refine v_iload C 6 dX9_meetings_92 rfl ?_
                          obtain ⟨im38, hM38, hb38⟩ := hJ31.1.1
                          have hq38 := hM38.b
                          refine v_cVp C dX9_meetings_94 lX9_149 mX9_weekday 68 (by omega) hM38.2.2.1 (by decide) rfl (ty_X9_weekday l G ad hJ31 y29) ⟨by decide, by decide⟩ rfl (Nat.le_of_ble_eq_true rfl) ⟨Nat.zero_le _, Nat.zero_le _⟩ (fun r36 hp37 => ?_)
                          refine v_iload_n C 2 dX9_meetings_97 rfl rfl ?_
                          refine v_bipush (v := 10) C dX9_meetings_98 (by decide) ?_
                          refine v_irem C dX9_meetings_100 (by decide) ?_
                          have := ti_any y
                          refine v_top (fun x39 ex39 => ?_)
                          have hx39 : x39.toInt = (y.toInt % 10) := by rw [ex39]; exact ti_rem (rfl : Int32.toInt y = _) (show (10 : Int32).toInt = 10 by decide) (by omega) (by omega)
                          refine b_icmp_ne C 158 dX9_meetings_101 (by decide) (rfl : Int32.toInt r36 = _) hx39 (fun c40 => ?_) (fun c40 => ?_)
                          · obtain ⟨x41, ex41⟩ : ∃ y : Int32, y = y29 + 1 := ⟨_, rfl⟩
                            have hx41 : x41.toInt = (y29.toInt + 1) := by rw [ex41]; exact ti_add (rfl : Int32.toInt y29 = _) (show (1 : Int32).toInt = 1 by decide) (by omega) (by omega)
                            refine v_iinc (v := x41) (lv' := [(0, .ref (ad 68)), (1, .int x), (2, .int y), (4, .int u), (5, .int v), (6, .int y28), (7, .int x41)]) C 6 [1, 2, 3, 4, 5, 6, 0] dX9_meetings_158 rfl (ex41.symm) (by decide) rfl ?_
                            refine v_goto C 84 dX9_meetings_161 (by decide) ?_
                            exact ih32 _ y28 x41 hJ31 (by have := ti_any y28; have := hx41; omega) (by have := ti_any y28; have := hx41; omega)
                          · refine v_aload_n C 0 dX9_meetings_104 rfl rfl ?_
                            refine v_iload_n C 1 dX9_meetings_105 rfl rfl ?_
                            refine v_sipush (v := 1440) C dX9_meetings_106 (by decide) ?_
                            refine v_iload C 6 dX9_meetings_109 rfl ?_
                            refine v_imul C dX9_meetings_111 ?_
                            refine v_top (fun x42 ex42 => ?_)
                            have hx42 : x42.toInt = (1440 * y29.toInt) := by rw [ex42]; exact ti_mul (show (1440 : Int32).toInt = 1440 by decide) (rfl : Int32.toInt y29 = _) (by omega) (by omega)
                            refine v_iload_n C 2 dX9_meetings_112 rfl rfl ?_
                            refine v_bipush (v := 10) C dX9_meetings_113 (by decide) ?_
                            refine v_idiv C dX9_meetings_115 (by decide) ?_
                            have := ti_any y
                            refine v_top (fun x43 ex43 => ?_)
                            have hx43 : x43.toInt = (y.toInt / 10) := by rw [ex43]; exact ti_div (rfl : Int32.toInt y = _) (show (10 : Int32).toInt = 10 by decide) (by omega) (by omega)
                            refine v_iadd C dX9_meetings_116 ?_
                            refine v_top (fun x44 ex44 => ?_)
                            have hx44 : x44.toInt = ((1440 * y29.toInt) + (y.toInt / 10)) := by rw [ex44]; exact ti_add hx42 hx43 (by omega) (by omega)
                            refine v_iconst (v := (-1)) C dX9_meetings_117 (by decide) ?_
                            refine v_cVi C dX9_meetings_118 lX9_191 mX9_momentOf 68 (by omega) hM38.2.2.1 (by decide) rfl (ty_X9_momentOf l G ad hJ31 x (show (0 : Int) ≤ Int32.toInt x ∧ Int32.toInt x ≤ 4 by omega) x44 (-1)) ⟨by decide, by decide⟩ rfl (Nat.le_of_ble_eq_true rfl) ⟨Nat.zero_le _, Nat.zero_le _⟩ (fun r45 E46 hp47 => ?_)
                            obtain ⟨hp47, hJ48⟩ := hp47
                            refine v_istore (lv' := [(0, .ref (ad 68)), (1, .int x), (2, .int y), (4, .int u), (5, .int v), (6, .int y28), (7, .int y29), (8, .int r45)]) C [1, 2, 3, 4, 5, 6, 7, 0] dX9_meetings_121 (by decide) rfl ?_
                            refine v_iload C 5 dX9_meetings_123 rfl ?_
                            refine v_iload C 4 dX9_meetings_125 rfl ?_
                            refine v_iconst (v := 2) C dX9_meetings_127 (by decide) ?_
                            refine b_icmp_eq C 150 dX9_meetings_128 (by decide) (rfl : Int32.toInt v = _) (show (2 : Int32).toInt = 2 by decide) (fun c49 => ?_) (fun c49 => ?_)
                            · refine v_iconst (v := 1) C dX9_meetings_150 (by decide) ?_
                              refine v_goto C 155 dX9_meetings_151 (by decide) ?_
                              refine v_iadd C dX9_meetings_155 ?_
                              refine v_top (fun x50 _ => ?_)
                              refine v_istore (lv' := [(0, .ref (ad 68)), (1, .int x), (2, .int y), (4, .int u), (5, .int v), (6, .int x50), (7, .int y29), (8, .int r45)]) C [1, 2, 3, 4, 5, 0, 6, 7] dX9_meetings_156 (by decide) rfl ?_
                              obtain ⟨x51, ex51⟩ : ∃ y : Int32, y = y29 + 1 := ⟨_, rfl⟩
                              have hx51 : x51.toInt = (y29.toInt + 1) := by rw [ex51]; exact ti_add (rfl : Int32.toInt y29 = _) (show (1 : Int32).toInt = 1 by decide) (by omega) (by omega)
                              refine v_iinc (v := x51) (lv' := [(0, .ref (ad 68)), (1, .int x), (2, .int y), (4, .int u), (5, .int v), (6, .int x50), (7, .int x51), (8, .int r45)]) C 6 [1, 2, 3, 4, 5, 6, 0, 7] dX9_meetings_158 rfl (ex51.symm) (by decide) rfl ?_
                              refine v_goto C 84 dX9_meetings_161 (by decide) ?_
                              refine v_sub (lv' := [(0, .ref (ad 68)), (1, .int x), (2, .int y), (4, .int u), (5, .int v), (6, .int x50), (7, .int x51)]) [0, 1, 2, 3, 4, 5, 6] rfl ?_
                              exact ih32 _ x50 x51 hJ48 (by have := ti_any x50; have := hx51; omega) (by have := ti_any x50; have := hx51; omega)
                            · refine v_iload C 4 dX9_meetings_131 rfl ?_
                              refine b_if_ne C 144 dX9_meetings_133 (by decide) (rfl : Int32.toInt v = _) (fun c52 => ?_) (fun c52 => ?_)
                              · refine v_iload C 7 dX9_meetings_144 rfl ?_
                                refine v_iconst (v := 1) C dX9_meetings_146 (by decide) ?_
                                refine b_icmp_le C 154 dX9_meetings_147 (by decide) (rfl : Int32.toInt r45 = _) (show (1 : Int32).toInt = 1 by decide) (fun c53 => ?_) (fun c53 => ?_)
                                · refine v_iconst (v := 0) C dX9_meetings_154 (by decide) ?_
                                  refine v_iadd C dX9_meetings_155 ?_
                                  refine v_top (fun x54 _ => ?_)
                                  refine v_istore (lv' := [(0, .ref (ad 68)), (1, .int x), (2, .int y), (4, .int u), (5, .int v), (6, .int x54), (7, .int y29), (8, .int r45)]) C [1, 2, 3, 4, 5, 0, 6, 7] dX9_meetings_156 (by decide) rfl ?_
                                  obtain ⟨x55, ex55⟩ : ∃ y : Int32, y = y29 + 1 := ⟨_, rfl⟩
                                  have hx55 : x55.toInt = (y29.toInt + 1) := by rw [ex55]; exact ti_add (rfl : Int32.toInt y29 = _) (show (1 : Int32).toInt = 1 by decide) (by omega) (by omega)
                                  refine v_iinc (v := x55) (lv' := [(0, .ref (ad 68)), (1, .int x), (2, .int y), (4, .int u), (5, .int v), (6, .int x54), (7, .int x55), (8, .int r45)]) C 6 [1, 2, 3, 4, 5, 6, 0, 7] dX9_meetings_158 rfl (ex55.symm) (by decide) rfl ?_
                                  refine v_goto C 84 dX9_meetings_161 (by decide) ?_
                                  refine v_sub (lv' := [(0, .ref (ad 68)), (1, .int x), (2, .int y), (4, .int u), (5, .int v), (6, .int x54), (7, .int x55)]) [0, 1, 2, 3, 4, 5, 6] rfl ?_
                                  exact ih32 _ x54 x55 hJ48 (by have := ti_any x54; have := hx55; omega) (by have := ti_any x54; have := hx55; omega)
                                · refine v_iconst (v := 1) C dX9_meetings_150 (by decide) ?_
                                  refine v_goto C 155 dX9_meetings_151 (by decide) ?_
                                  refine v_iadd C dX9_meetings_155 ?_
                                  refine v_top (fun x56 _ => ?_)
                                  refine v_istore (lv' := [(0, .ref (ad 68)), (1, .int x), (2, .int y), (4, .int u), (5, .int v), (6, .int x56), (7, .int y29), (8, .int r45)]) C [1, 2, 3, 4, 5, 0, 6, 7] dX9_meetings_156 (by decide) rfl ?_
                                  obtain ⟨x57, ex57⟩ : ∃ y : Int32, y = y29 + 1 := ⟨_, rfl⟩
                                  have hx57 : x57.toInt = (y29.toInt + 1) := by rw [ex57]; exact ti_add (rfl : Int32.toInt y29 = _) (show (1 : Int32).toInt = 1 by decide) (by omega) (by omega)
                                  refine v_iinc (v := x57) (lv' := [(0, .ref (ad 68)), (1, .int x), (2, .int y), (4, .int u), (5, .int v), (6, .int x56), (7, .int x57), (8, .int r45)]) C 6 [1, 2, 3, 4, 5, 6, 0, 7] dX9_meetings_158 rfl (ex57.symm) (by decide) rfl ?_
                                  refine v_goto C 84 dX9_meetings_161 (by decide) ?_
                                  refine v_sub (lv' := [(0, .ref (ad 68)), (1, .int x), (2, .int y), (4, .int u), (5, .int v), (6, .int x56), (7, .int x57)]) [0, 1, 2, 3, 4, 5, 6] rfl ?_
                                  exact ih32 _ x56 x57 hJ48 (by have := ti_any x56; have := hx57; omega) (by have := ti_any x56; have := hx57; omega)
                              · refine v_iload C 7 dX9_meetings_136 rfl ?_
                                refine b_if_ne C 154 dX9_meetings_138 (by decide) (rfl : Int32.toInt r45 = _) (fun c58 => ?_) (fun c58 => ?_)
                                · refine v_iconst (v := 0) C dX9_meetings_154 (by decide) ?_
                                  refine v_iadd C dX9_meetings_155 ?_
                                  refine v_top (fun x59 _ => ?_)
                                  refine v_istore (lv' := [(0, .ref (ad 68)), (1, .int x), (2, .int y), (4, .int u), (5, .int v), (6, .int x59), (7, .int y29), (8, .int r45)]) C [1, 2, 3, 4, 5, 0, 6, 7] dX9_meetings_156 (by decide) rfl ?_
                                  obtain ⟨x60, ex60⟩ : ∃ y : Int32, y = y29 + 1 := ⟨_, rfl⟩
                                  have hx60 : x60.toInt = (y29.toInt + 1) := by rw [ex60]; exact ti_add (rfl : Int32.toInt y29 = _) (show (1 : Int32).toInt = 1 by decide) (by omega) (by omega)
                                  refine v_iinc (v := x60) (lv' := [(0, .ref (ad 68)), (1, .int x), (2, .int y), (4, .int u), (5, .int v), (6, .int x59), (7, .int x60), (8, .int r45)]) C 6 [1, 2, 3, 4, 5, 6, 0, 7] dX9_meetings_158 rfl (ex60.symm) (by decide) rfl ?_
                                  refine v_goto C 84 dX9_meetings_161 (by decide) ?_
                                  refine v_sub (lv' := [(0, .ref (ad 68)), (1, .int x), (2, .int y), (4, .int u), (5, .int v), (6, .int x59), (7, .int x60)]) [0, 1, 2, 3, 4, 5, 6] rfl ?_
                                  exact ih32 _ x59 x60 hJ48 (by have := ti_any x59; have := hx60; omega) (by have := ti_any x59; have := hx60; omega)
                                · refine v_goto C 150 dX9_meetings_141 (by decide) ?_
                                  refine v_iconst (v := 1) C dX9_meetings_150 (by decide) ?_
                                  refine v_goto C 155 dX9_meetings_151 (by decide) ?_
                                  refine v_iadd C dX9_meetings_155 ?_
                                  refine v_top (fun x61 _ => ?_)
                                  refine v_istore (lv' := [(0, .ref (ad 68)), (1, .int x), (2, .int y), (4, .int u), (5, .int v), (6, .int x61), (7, .int y29), (8, .int r45)]) C [1, 2, 3, 4, 5, 0, 6, 7] dX9_meetings_156 (by decide) rfl ?_
                                  obtain ⟨x62, ex62⟩ : ∃ y : Int32, y = y29 + 1 := ⟨_, rfl⟩
                                  have hx62 : x62.toInt = (y29.toInt + 1) := by rw [ex62]; exact ti_add (rfl : Int32.toInt y29 = _) (show (1 : Int32).toInt = 1 by decide) (by omega) (by omega)
                                  refine v_iinc (v := x62) (lv' := [(0, .ref (ad 68)), (1, .int x), (2, .int y), (4, .int u), (5, .int v), (6, .int x61), (7, .int x62), (8, .int r45)]) C 6 [1, 2, 3, 4, 5, 6, 0, 7] dX9_meetings_158 rfl (ex62.symm) (by decide) rfl ?_
                                  refine v_goto C 84 dX9_meetings_161 (by decide) ?_
                                  refine v_sub (lv' := [(0, .ref (ad 68)), (1, .int x), (2, .int y), (4, .int u), (5, .int v), (6, .int x61), (7, .int x62)]) [0, 1, 2, 3, 4, 5, 6] rfl ?_
                                  exact ih32 _ x61 x62 hJ48 (by have := ti_any x61; have := hx62; omega) (by have := ti_any x61; have := hx62; omega)
                    refine v_sub (lv' := [(0, .ref (ad 68)), (1, .int x), (2, .int y), (4, .int u), (5, .int v), (6, .int 0), (7, .int z)]) [0, 1, 2, 4, 5, 6, 7] rfl ?_
                    exact LP27 100000 _ 0 z hJ18 (by have := (show (0 : Int32).toInt = 0 by decide); omega) (by have := (show (0 : Int32).toInt = 0 by decide); omega)
                  · refine b_if_ne C 78 dX9_meetings_73 (by decide) (show (0 : Int32).toInt = 0 by decide) (fun c63 => absurd c63 (by decide)) (fun c63 => ?_)
                    refine v_iconst (v := (-1)) C dX9_meetings_76 (by decide) ?_
                    exact v_ret C dX9_meetings_77 rfl rfl ⟨(ti_any (-1)), hJ18⟩
            · refine b_if_eq C 76 dX9_meetings_47 (by decide) (show (0 : Int32).toInt = 0 by decide) (fun c64 => ?_) (fun c64 => absurd c64 (by decide))
              refine v_iconst (v := (-1)) C dX9_meetings_76 (by decide) ?_
              exact v_ret C dX9_meetings_77 rfl rfl ⟨(ti_any (-1)), hJ18⟩
          · refine b_if_eq C 76 dX9_meetings_38 (by decide) (show (0 : Int32).toInt = 0 by decide) (fun c65 => ?_) (fun c65 => absurd c65 (by decide))
            refine v_iconst (v := (-1)) C dX9_meetings_76 (by decide) ?_
            exact v_ret C dX9_meetings_77 rfl rfl ⟨(ti_any (-1)), hJ13⟩
  · refine b_if_eq C 76 dX9_meetings_5 (by decide) (show (0 : Int32).toInt = 0 by decide) (fun c66 => ?_) (fun c66 => absurd c66 (by decide))
    refine v_iconst (v := (-1)) C dX9_meetings_76 (by decide) ?_
    exact v_ret C dX9_meetings_77 rfl rfl ⟨(ti_any (-1)), hJ⟩

set_option maxRecDepth 20000 in
theorem ty_X9_count (l : Launch) (G : Gl) (ad : Nat → Nat) {Z : (Nat → va_E) → Prop} {kn : Int} {n : Nat} {ic md : Nat → Int32} {bd : Nat → Int × Int} {E0 E : Nat → va_E} (hJ : JY l Z kn G ad n ic md bd PR E0 E) (x : Int32) : CtI l G yX9_count cX9_count 4 .int 3 64 (n) ad E [.ref (ad 68), .int x] (fun r E' => ((-2147483648 : Int) ≤ r.toInt ∧ r.toInt ≤ 2147483647) ∧ JY l Z kn G ad n ic md bd PR E0 E') := by
  refine CtI.of (by decide) (Nat.le_of_ble_eq_true rfl) (fun X A C => ?_)
  refine v_sub (lv' := [(0, .ref (ad 68)), (1, .int x)]) [0, 1] rfl ?_
  have hn := hJ.hn
  have hz16 := hJ.1.2.2.2.2
  refine v_iconst (v := 0) C dX9_count_0 (by decide) ?_
  refine v_istore_n (lv' := [(0, .ref (ad 68)), (1, .int x), (2, .int 0)]) C [1, 2, 0] dX9_count_1 rfl (by decide) rfl ?_
  refine v_iconst (v := 0) C dX9_count_2 (by decide) ?_
  refine v_istore_n (lv' := [(0, .ref (ad 68)), (1, .int x), (2, .int 0), (3, .int 0)]) C [1, 2, 3, 0] dX9_count_3 rfl (by decide) rfl ?_
  have LP1 : ∀ (t : Nat) (E4 : Nat → va_E) (y2 : Int32) (y3 : Int32), JY l Z kn G ad n ic md bd PR E0 E4 → ((0 : Int) ≤ y3.toInt ∧ y3.toInt ≤ 6) → 7 - y3.toInt < (t : Int) → V X G A 4 (QI X G A (n) ad (fun r E' => ((-2147483648 : Int) ≤ r.toInt ∧ r.toInt ≤ 2147483647) ∧ JY l Z kn G ad n ic md bd PR E0 E')) n ad 0 0 E4 4 [(0, .ref (ad 68)), (1, .int x), (2, .int y2), (3, .int y3)] [] := by
    intro t8
    induction t8 with
    | zero => intro E4 y2 y3 hJ5 hy3 hm7; exfalso; omega
    | succ t8 ih6 =>
      intro E4 y2 y3 hJ5 hy3 hm7
      refine v_iload_n C 3 dX9_count_4 rfl rfl ?_
      refine v_bipush (v := 6) C dX9_count_5 (by decide) ?_
      refine b_icmp_ge C 25 dX9_count_7 (by decide) (rfl : Int32.toInt y3 = _) (show (6 : Int32).toInt = 6 by decide) (fun c9 => ?_) (fun c9 => ?_)
      · refine v_iload_n C 1 dX9_count_25 rfl rfl ?_
        refine b_if_ne C 36 dX9_count_26 (by decide) (rfl : Int32.toInt x = _) (fun c10 => ?_) (fun c10 => ?_)
        · refine v_iload_n C 1 dX9_count_36 rfl rfl ?_
          refine v_iconst (v := 1) C dX9_count_37 (by decide) ?_
          refine b_icmp_ne C 45 dX9_count_38 (by decide) (rfl : Int32.toInt x = _) (show (1 : Int32).toInt = 1 by decide) (fun c11 => ?_) (fun c11 => ?_)
          · refine v_iload_n C 1 dX9_count_45 rfl rfl ?_
            refine v_iconst (v := 2) C dX9_count_46 (by decide) ?_
            refine b_icmp_ne C 57 dX9_count_47 (by decide) (rfl : Int32.toInt x = _) (show (2 : Int32).toInt = 2 by decide) (fun c12 => ?_) (fun c12 => ?_)
            · refine v_iload_n C 1 dX9_count_57 rfl rfl ?_
              refine v_iconst (v := 3) C dX9_count_58 (by decide) ?_
              refine b_icmp_ne C 69 dX9_count_59 (by decide) (rfl : Int32.toInt x = _) (show (3 : Int32).toInt = 3 by decide) (fun c13 => ?_) (fun c13 => ?_)
              · refine v_iconst (v := (-1)) C dX9_count_69 (by decide) ?_
                exact v_ret C dX9_count_70 rfl rfl ⟨(ti_any (-1)), hJ5⟩
              · refine v_aload_n C 0 dX9_count_62 rfl rfl ?_
                obtain ⟨im18, hM18, hb18⟩ := hJ5.1.1
                have hq18 := hM18.b
                refine v_cVi C dX9_count_63 lX9_127 mX9_allDays 68 (by omega) hM18.2.2.1 (by decide) rfl (d_allDays l G _ ad _ hn hM18 ) ⟨by decide, by decide⟩ rfl (Nat.le_of_ble_eq_true rfl) ⟨Nat.zero_le _, Nat.zero_le _⟩ (fun r14 E15 hq16 => ?_)
                obtain ⟨hq16, hq16m⟩ := hq16
                have hJ17 := hJ5.mr hb18 (by unfold PR; omega) (by unfold PR; omega) hq16m
                have hcyr14 := cal_y hM18.2.1
                have hr14 : (0 : Int) ≤ r14.toInt ∧ r14.toInt ≤ 48100 := by rw [hq16]; exact hcyr14
                refine v_goto C 70 dX9_count_66 (by decide) ?_
                exact v_ret C dX9_count_70 rfl rfl ⟨(ti_any r14), hJ17⟩
            · refine v_aload_n C 0 dX9_count_50 rfl rfl ?_
              obtain ⟨im19, hM19, hb19⟩ := hJ5.1.1
              have hq19 := hM19.b
              refine v_geti (v := im19 17) C 68 dX9_count_51 fX9_165 (by omega) hM19.2.2.1 rfl rfl ?_
              refine v_goto C 70 dX9_count_54 (by decide) ?_
              exact v_ret C dX9_count_70 rfl rfl ⟨(ti_any (im19 17)), hJ5⟩
          · refine v_iload_n C 2 dX9_count_41 rfl rfl ?_
            refine v_goto C 70 dX9_count_42 (by decide) ?_
            exact v_ret C dX9_count_70 rfl rfl ⟨(ti_any y2), hJ5⟩
        · refine v_aload_n C 0 dX9_count_29 rfl rfl ?_
          obtain ⟨im20, hM20, hb20⟩ := hJ5.1.1
          have hq20 := hM20.b
          refine v_geti (v := im20 16) C 68 dX9_count_30 fX9_135 (by omega) hM20.2.2.1 rfl rfl ?_
          have him20_16r := hb20 16
          have him20_16 : (0 : Int) ≤ (im20 16).toInt ∧ (im20 16).toInt ≤ 5 := by have := hb20 16; omega
          refine v_goto C 70 dX9_count_33 (by decide) ?_
          exact v_ret C dX9_count_70 rfl rfl ⟨(ti_any (im20 16)), hJ5⟩
      · refine v_iload_n C 2 dX9_count_10 rfl rfl ?_
        refine v_aload_n C 0 dX9_count_11 rfl rfl ?_
        obtain ⟨im21, hM21, hb21⟩ := hJ5.1.1
        have hq21 := hM21.b
        refine v_getr C 68 dX9_count_12 fX9_85 (by omega) hM21.2.2.1 rfl rfl ?_
        refine v_iload_n C 3 dX9_count_15 rfl rfl ?_
        obtain ⟨f23, hE23, hb23⟩ := hJ5.1.2.1.getA (b := 88) (by omega) rfl
        refine v_ald (v := f23 (y3.toInt).toNat) C 88 dX9_count_16 (by omega) hE23 (ti_in (rfl : Int32.toInt y3 = _) (by omega) (by omega)) (by rw [ti_cl (rfl : Int32.toInt y3 = _)]) ?_
        refine v_top (fun x24 ex24 => ?_)
        have hx24 : (0 : Int) ≤ x24.toInt ∧ x24.toInt ≤ 10 := by rw [ex24]; exact hb23 _
        refine v_iadd C dX9_count_17 ?_
        refine v_top (fun x25 _ => ?_)
        refine v_istore_n (lv' := [(0, .ref (ad 68)), (1, .int x), (2, .int x25), (3, .int y3)]) C [1, 2, 0, 3] dX9_count_18 rfl (by decide) rfl ?_
        obtain ⟨x26, ex26⟩ : ∃ y : Int32, y = y3 + 1 := ⟨_, rfl⟩
        have hx26 : x26.toInt = (y3.toInt + 1) := by rw [ex26]; exact ti_add (rfl : Int32.toInt y3 = _) (show (1 : Int32).toInt = 1 by decide) (by omega) (by omega)
        refine v_iinc (v := x26) (lv' := [(0, .ref (ad 68)), (1, .int x), (2, .int x25), (3, .int x26)]) C 3 [1, 2, 3, 0] dX9_count_19 rfl (ex26.symm) (by decide) rfl ?_
        refine v_goto C 4 dX9_count_22 (by decide) ?_
        exact ih6 _ x25 x26 hJ5 (by have := ti_any x25; have := hx26; omega) (by have := ti_any x25; have := hx26; omega)
  exact LP1 100000 _ 0 0 hJ (by have := (show (0 : Int32).toInt = 0 by decide); omega) (by have := (show (0 : Int32).toInt = 0 by decide); omega)

set_option maxRecDepth 20000 in
theorem xy_mix (l : Launch) (G : Gl) (ad : Nat → Nat) {Z : (Nat → va_E) → Prop} {kn : Int} {n : Nat} {ic md : Nat → Int32} {bd : Nat → Int × Int} {E0 E : Nat → va_E} (hJ : JY l Z kn G ad n ic md bd PT E0 E) {gop gx gy fl : Nat → Int32} (hgo : E0 85 = aI G 60 gop) (hgx : E0 86 = aI G 60 gx) (hgy : E0 87 = aI G 60 gy) (hgl : E0 88 = aI G 6 fl) (hbl : ∀ k, 0 ≤ (fl k).toInt ∧ (fl k).toInt ≤ 10) (hLX : LXg gop gx) (hOP : OPg gop) (hf32 : ((0 : Int) ≤ (bd 32).1 ∧ (bd 32).2 ≤ 10) ∧ ((bd 32).1 ≤ 0 ∧ 10 ≤ (bd 32).2)) (hf35 : ((0 : Int) ≤ (bd 35).1 ∧ (bd 35).2 ≤ 8) ∧ ((bd 35).1 ≤ 0 ∧ 8 ≤ (bd 35).2)) (p : Int32) : CtI l G yX9_mix cX9_mix 2 .int 4 86 (n) ad E [.ref (ad 68), .int p] (fun r E' => r.toInt = MIr fl gop p ∧ JY l Z kn G ad n ic md bd PT E0 E') := by
  refine CtI.of (by decide) (Nat.le_of_ble_eq_true rfl) (fun X A C => ?_)
  refine v_sub (lv' := [(0, .ref (ad 68)), (1, .int p)]) [0, 1] rfl ?_
  have hn := hJ.hn
  have hz16 := hJ.1.2.2.2.2
  refine v_iload_n C 1 dX9_mix_0 rfl rfl ?_
  refine v_cSp C dX9_mix_1 lX9_194 mX9_isProgram (ty_X9_isProgram l G ad hJ.self p) ⟨by decide, by decide⟩ rfl (Nat.le_of_ble_eq_true rfl) ⟨Nat.zero_le _, Nat.zero_le _⟩ (fun r1 hp2 => ?_)
  rcases hp2 with ⟨rfl, hp2⟩ | ⟨rfl, hp2⟩
  · refine b_if_ne C 9 dX9_mix_4 (by decide) (show (1 : Int32).toInt = 1 by decide) (fun c3 => ?_) (fun c3 => absurd c3 (by decide))
    refine v_aload_n C 0 dX9_mix_9 rfl rfl ?_
    refine v_iload_n C 1 dX9_mix_10 rfl rfl ?_
    obtain ⟨im7, hM7, hb7⟩ := hJ.1.1
    have hq7 := hM7.b
    refine v_cVv C dX9_mix_11 lX9_219 mX9_take 68 (by omega) hM7.2.2.1 (by decide) rfl (ty_X9_take l G ad hJ hgo hgx hgy hgl hbl p (show (0 : Int) ≤ Int32.toInt p ∧ Int32.toInt p ≤ 5 by omega)) ⟨by decide, by decide⟩ rfl (Nat.le_of_ble_eq_true rfl) ⟨Nat.zero_le _, Nat.zero_le _⟩ (fun E4 hT6 => ?_)
    obtain ⟨fo6, fx6, fy6, h896, h906, h916, hT6, hJ5⟩ := hT6
    have hbm6 := hbl (p.toInt).toNat
    have hox6 : OXm fo6 fx6 ((fl (p.toInt).toNat).toInt).toNat := fun j hj hq => by have q := hT6 j hj; rw [q.1] at hq; rw [q.2.1]; exact hLX _ (by omega) hq
    refine v_aload_n C 0 dX9_mix_14 rfl rfl ?_
    have hpo : ∀ j, j < ((fl (p.toInt).toNat).toInt).toNat → 0 ≤ (fo6 j).toInt ∧ (fo6 j).toInt ≤ 11 := fun j hj => by rw [(hT6 j hj).1]; exact hOP _ (by omega)
    have hcg : ∀ j, j < ((fl (p.toInt).toNat).toInt).toNat → fo6 j = gop (10 * (p.toInt).toNat + j) := fun j hj => (hT6 j hj).1
    obtain ⟨im13, hM13, hb13⟩ := hJ5.1.1
    have hq13 := hM13.b
    refine v_cVi C dX9_mix_15 lX9_222 mX9_mixOf 68 (by omega) hM13.2.2.1 (by decide) rfl (xy_mixOf l G ad hJ5.self h896 (show ((fl (p.toInt).toNat).toInt).toNat ≤ 10 by omega) (show ((((fl (p.toInt).toNat).toInt).toNat : Nat) : Int) ≤ (fl (p.toInt).toNat).toInt ∧ (fl (p.toInt).toNat).toInt ≤ ((((fl (p.toInt).toNat).toInt).toNat : Nat) : Int) by omega) hpo) ⟨by decide, by decide⟩ rfl (Nat.le_of_ble_eq_true rfl) ⟨Nat.zero_le _, Nat.zero_le _⟩ (fun r8 E9 hp10 => ?_)
    obtain ⟨hrx, hkx, hJ11⟩ := hp10
    rcases Classical.em (r8.toInt = -6) with hp10 | hp10
    · have hJ12 := hJ5.trans (fun _ => PT_PR) hJ11
      have e14 := (hJ11.1.2.1.1 89 (by unfold PR; omega)).trans h896
      have e15 := (hJ11.1.2.1.1 90 (by unfold PR; omega)).trans h906
      have e16 := (hJ11.1.2.1.1 91 (by unfold PR; omega)).trans h916
      obtain rfl : r8 = (-6 : Int32) := ti_ext (hp10.trans (by decide))
      exact v_ret C dX9_mix_18 rfl rfl ⟨(by unfold MIr; rw [if_pos (by unfold okPg; omega), hrx]; unfold MXf; rw [MIS_congr hcg]), ((hJ12.outB (k := 35) (by decide) (show (bd 35).1 ≤ 0 by omega) (show 8 ≤ (bd 35).2 by omega)).outB (k := 32) (by decide) (show (bd 32).1 ≤ (fl (p.toInt).toNat).toInt by omega) (show (fl (p.toInt).toNat).toInt ≤ (bd 32).2 by omega))⟩
    · have hJ12 := hJ5.trans (fun _ => PT_PR) hJ11
      have e17 := (hJ11.1.2.1.1 89 (by unfold PR; omega)).trans h896
      have e18 := (hJ11.1.2.1.1 90 (by unfold PR; omega)).trans h906
      have e19 := (hJ11.1.2.1.1 91 (by unfold PR; omega)).trans h916
      exact v_ret C dX9_mix_18 rfl rfl ⟨(by unfold MIr; rw [if_pos (by unfold okPg; omega), hrx]; unfold MXf; rw [MIS_congr hcg]), ((hJ12.outB (k := 35) (by decide) (show (bd 35).1 ≤ 0 by omega) (show 8 ≤ (bd 35).2 by omega)).outB (k := 32) (by decide) (show (bd 32).1 ≤ (fl (p.toInt).toNat).toInt by omega) (show (fl (p.toInt).toNat).toInt ≤ (bd 32).2 by omega))⟩
  · refine b_if_ne C 9 dX9_mix_4 (by decide) (show (0 : Int32).toInt = 0 by decide) (fun c20 => absurd c20 (by decide)) (fun c20 => ?_)
    refine v_iconst (v := (-1)) C dX9_mix_7 (by decide) ?_
    exact v_ret C dX9_mix_8 rfl rfl ⟨(by rw [show (-1 : Int32).toInt = -1 by decide]; unfold MIr; rw [if_neg (by unfold okPg; omega)]), hJ⟩

set_option maxRecDepth 20000 in
theorem xy_kind (l : Launch) (G : Gl) (ad : Nat → Nat) {Z : (Nat → va_E) → Prop} {kn : Int} {n : Nat} {ic md : Nat → Int32} {bd : Nat → Int × Int} {E0 E : Nat → va_E} (hJ : JY l Z kn G ad n ic md bd PT E0 E) {gop gx gy fl : Nat → Int32} (hgo : E0 85 = aI G 60 gop) (hgx : E0 86 = aI G 60 gx) (hgy : E0 87 = aI G 60 gy) (hgl : E0 88 = aI G 6 fl) (hbl : ∀ k, 0 ≤ (fl k).toInt ∧ (fl k).toInt ≤ 10) (hLX : LXg gop gx) (hOP : OPg gop) (hf32 : ((0 : Int) ≤ (bd 32).1 ∧ (bd 32).2 ≤ 10) ∧ ((bd 32).1 ≤ 0 ∧ 10 ≤ (bd 32).2)) (hf35 : ((0 : Int) ≤ (bd 35).1 ∧ (bd 35).2 ≤ 8) ∧ ((bd 35).1 ≤ 0 ∧ 8 ≤ (bd 35).2)) (p : Int32) : CtI l G yX9_kind cX9_kind 2 .int 4 86 (n) ad E [.ref (ad 68), .int p] (fun r E' => r.toInt = KIr fl gop p ∧ JY l Z kn G ad n ic md bd PT E0 E') := by
  refine CtI.of (by decide) (Nat.le_of_ble_eq_true rfl) (fun X A C => ?_)
  refine v_sub (lv' := [(0, .ref (ad 68)), (1, .int p)]) [0, 1] rfl ?_
  have hn := hJ.hn
  have hz16 := hJ.1.2.2.2.2
  refine v_iload_n C 1 dX9_kind_0 rfl rfl ?_
  refine v_cSp C dX9_kind_1 lX9_194 mX9_isProgram (ty_X9_isProgram l G ad hJ.self p) ⟨by decide, by decide⟩ rfl (Nat.le_of_ble_eq_true rfl) ⟨Nat.zero_le _, Nat.zero_le _⟩ (fun r1 hp2 => ?_)
  rcases hp2 with ⟨rfl, hp2⟩ | ⟨rfl, hp2⟩
  · refine b_if_ne C 9 dX9_kind_4 (by decide) (show (1 : Int32).toInt = 1 by decide) (fun c3 => ?_) (fun c3 => absurd c3 (by decide))
    refine v_aload_n C 0 dX9_kind_9 rfl rfl ?_
    refine v_iload_n C 1 dX9_kind_10 rfl rfl ?_
    obtain ⟨im7, hM7, hb7⟩ := hJ.1.1
    have hq7 := hM7.b
    refine v_cVv C dX9_kind_11 lX9_219 mX9_take 68 (by omega) hM7.2.2.1 (by decide) rfl (ty_X9_take l G ad hJ hgo hgx hgy hgl hbl p (show (0 : Int) ≤ Int32.toInt p ∧ Int32.toInt p ≤ 5 by omega)) ⟨by decide, by decide⟩ rfl (Nat.le_of_ble_eq_true rfl) ⟨Nat.zero_le _, Nat.zero_le _⟩ (fun E4 hT6 => ?_)
    obtain ⟨fo6, fx6, fy6, h896, h906, h916, hT6, hJ5⟩ := hT6
    have hbm6 := hbl (p.toInt).toNat
    have hox6 : OXm fo6 fx6 ((fl (p.toInt).toNat).toInt).toNat := fun j hj hq => by have q := hT6 j hj; rw [q.1] at hq; rw [q.2.1]; exact hLX _ (by omega) hq
    refine v_aload_n C 0 dX9_kind_14 rfl rfl ?_
    have hpo : ∀ j, j < ((fl (p.toInt).toNat).toInt).toNat → 0 ≤ (fo6 j).toInt ∧ (fo6 j).toInt ≤ 11 := fun j hj => by rw [(hT6 j hj).1]; exact hOP _ (by omega)
    have hcg : ∀ j, j < ((fl (p.toInt).toNat).toInt).toNat → fo6 j = gop (10 * (p.toInt).toNat + j) := fun j hj => (hT6 j hj).1
    obtain ⟨im13, hM13, hb13⟩ := hJ5.1.1
    have hq13 := hM13.b
    refine v_cVi C dX9_kind_15 lX9_222 mX9_mixOf 68 (by omega) hM13.2.2.1 (by decide) rfl (xy_mixOf l G ad hJ5.self h896 (show ((fl (p.toInt).toNat).toInt).toNat ≤ 10 by omega) (show ((((fl (p.toInt).toNat).toInt).toNat : Nat) : Int) ≤ (fl (p.toInt).toNat).toInt ∧ (fl (p.toInt).toNat).toInt ≤ ((((fl (p.toInt).toNat).toInt).toNat : Nat) : Int) by omega) hpo) ⟨by decide, by decide⟩ rfl (Nat.le_of_ble_eq_true rfl) ⟨Nat.zero_le _, Nat.zero_le _⟩ (fun r8 E9 hp10 => ?_)
    obtain ⟨hrx, hkx, hJ11⟩ := hp10
    rcases Classical.em (r8.toInt = -6) with hp10 | hp10
    · have hJ12 := hJ5.trans (fun _ => PT_PR) hJ11
      have e14 := (hJ11.1.2.1.1 89 (by unfold PR; omega)).trans h896
      have e15 := (hJ11.1.2.1.1 90 (by unfold PR; omega)).trans h906
      have e16 := (hJ11.1.2.1.1 91 (by unfold PR; omega)).trans h916
      obtain rfl : r8 = (-6 : Int32) := ti_ext (hp10.trans (by decide))
      refine v_bipush (v := (-6)) C dX9_kind_18 (by decide) ?_
      refine b_icmp_ne C 32 dX9_kind_20 (by decide) (show ((-6) : Int32).toInt = (-6) by decide) (show ((-6) : Int32).toInt = (-6) by decide) (fun c17 => absurd c17 (by decide)) (fun c17 => ?_)
      refine v_aload_n C 0 dX9_kind_23 rfl rfl ?_
      obtain ⟨im18, hM18, hb18⟩ := hJ12.1.1
      have hq18 := hM18.b
      refine v_getr C 68 dX9_kind_24 fX9_97 (by omega) hM18.2.2.1 rfl rfl ?_
      refine v_iconst (v := 0) C dX9_kind_27 (by decide) ?_
      obtain ⟨f20, hE20, hb20⟩ := hJ12.1.2.1.getA (b := 92) (by omega) rfl
      refine v_ald (v := f20 0) C 92 dX9_kind_28 (by omega) hE20 (ti_in (show (0 : Int32).toInt = 0 by decide) (by omega) (by omega)) (congrArg f20 (by decide)) ?_
      refine v_eq (y := f20 0) (rfl) ?_
      refine v_goto C 34 dX9_kind_29 (by decide) ?_
      exact v_ret C dX9_kind_34 rfl rfl ⟨(by unfold KIr; rw [if_pos (by unfold okPg; omega), ← KD_congr hcg]; obtain ⟨K, hK⟩ := MIS_whole (MX_iff.mp (hrx.symm.trans (by decide))); obtain ⟨K1, q1, q2⟩ := hkx K hK; rw [KD_of hK, ← q2, aI_inj (q1.symm.trans hE20)]), ((hJ12.outB (k := 35) (by decide) (show (bd 35).1 ≤ 0 by omega) (show 8 ≤ (bd 35).2 by omega)).outB (k := 32) (by decide) (show (bd 32).1 ≤ (fl (p.toInt).toNat).toInt by omega) (show (fl (p.toInt).toNat).toInt ≤ (bd 32).2 by omega))⟩
    · have hJ12 := hJ5.trans (fun _ => PT_PR) hJ11
      have e21 := (hJ11.1.2.1.1 89 (by unfold PR; omega)).trans h896
      have e22 := (hJ11.1.2.1.1 90 (by unfold PR; omega)).trans h906
      have e23 := (hJ11.1.2.1.1 91 (by unfold PR; omega)).trans h916
      refine v_bipush (v := (-6)) C dX9_kind_18 (by decide) ?_
      refine b_icmp_ne C 32 dX9_kind_20 (by decide) (rfl : Int32.toInt r8 = _) (show ((-6) : Int32).toInt = (-6) by decide) (fun c24 => ?_) (fun c24 => absurd (by have := c24; omega) hp10)
      refine v_bipush (v := (-4)) C dX9_kind_32 (by decide) ?_
      exact v_ret C dX9_kind_34 rfl rfl ⟨(by rw [show (-4 : Int32).toInt = -4 by decide]; unfold KIr; rw [if_pos (by unfold okPg; omega), ← KD_congr hcg]; exact (KD_no (fun q => hp10 ((hrx.trans (MX_iff.mpr q))))).symm), ((hJ12.outB (k := 35) (by decide) (show (bd 35).1 ≤ 0 by omega) (show 8 ≤ (bd 35).2 by omega)).outB (k := 32) (by decide) (show (bd 32).1 ≤ (fl (p.toInt).toNat).toInt by omega) (show (fl (p.toInt).toNat).toInt ≤ (bd 32).2 by omega))⟩
  · refine b_if_ne C 9 dX9_kind_4 (by decide) (show (0 : Int32).toInt = 0 by decide) (fun c25 => absurd c25 (by decide)) (fun c25 => ?_)
    refine v_iconst (v := (-1)) C dX9_kind_7 (by decide) ?_
    exact v_ret C dX9_kind_8 rfl rfl ⟨(by rw [show (-1 : Int32).toInt = -1 by decide]; unfold KIr; rw [if_neg (by unfold okPg; omega)]), hJ⟩

