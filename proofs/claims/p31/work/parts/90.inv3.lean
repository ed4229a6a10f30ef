section INV3
variable {G : Gl} {ad ad1 : Nat → Nat} {n n1 k : Nat} {ic md ic' md' : Nat → Int32} {td kn td' kn' : Int32} {fl fl' : Nat → Int32} {P : Nat → Prop} {E0 E E1 : Nat → va_E} {bd : Nat → Int × Int}
theorem CalW.of' (h : CalW G ad E ic md) (hE : ∀ j, j < 6 → j ≠ 0 → E1 j = E j) : CalW G ad E1 ic md := by
  obtain ⟨ms, ld, ys, h1, h2, h3, h4, h5, hP, hF⟩ := h
  exact ⟨ms, ld, ys, (hE 1 (by decide) (by decide)).trans h1, (hE 2 (by decide) (by decide)).trans h2, (hE 3 (by decide) (by decide)).trans h3, (hE 4 (by decide) (by decide)).trans h4, (hE 5 (by decide) (by decide)).trans h5, hP, hF⟩
theorem wk_fk {im : Nat → Int32} (h : MCal G ad E im ic md) {w f : Int32} (h70 : E1 70 = E 70) : ∃ mf : Nat → Int32, E1 70 = aI G 1201 mf ∧ (mf 0).toInt = 0 ∧ (va_up (va_up im 4 w) 5 f 7 = 1 → ∀ q, q < 1201 → (mf q).toInt = FKf (va_up (va_up ic 7 w) 8 f) md q) := by
  obtain ⟨-, -, -, -, -, mf, a6, a7, a8⟩ := h
  exact ⟨mf, h70.trans a6, a7, fun h7 q hq => (a8 h7 q hq).trans rfl⟩
theorem MCal.up79 {im : Nat → Int32} {q : Nat} {v : Int32} (h : MCal G ad E im ic md) (hk : 9 ≤ q) (h1 : E1 68 = ob 9 (rX9 ad) (va_up im q v)) (o1 : ∀ j, j ≠ 68 → j < 71 → E1 j = E j) : MCal G ad E1 (va_up im q v) ic md := by
  obtain ⟨a1, a2, a3, a4, a5, mf, a6, a7, a8⟩ := h
  have e : ∀ p, p < 9 → va_up im q v p = im p := fun p hq => by simp [va_up, show ¬ p = q by omega]
  refine ⟨?_, a2, h1, (o1 69 (by decide) (by decide)).trans a4, by rw [e 7 (by decide)]; exact a5, mf, (o1 70 (by decide) (by decide)).trans a6, a7, by rw [e 7 (by decide)]; exact a8⟩
  rw [← a1]
  funext p
  unfold icm
  by_cases hq : p ≤ 8
  · rw [if_pos hq, if_pos hq, e _ (by omega)]
  · rw [if_neg hq, if_neg hq]
theorem bdM_17 (k : Nat) (td kn x : Int32) : ∀ q, q ≠ 17 → bdM k x kn q = bdM k td kn q := fun q h => by unfold bdM; simp only [if_neg h]
theorem bdM_18 (k : Nat) (td kn x : Int32) : ∀ q, q ≠ 18 → bdM k td x q = bdM k td kn q := fun q h => by unfold bdM; simp only [if_neg h]
theorem bdM_16 (k : Nat) (td kn : Int32) : ∀ q, q ≠ 16 → bdM (k + 1) td kn q = bdM k td kn q := fun q h => by unfold bdM; simp only [if_neg h]
theorem ty79 {x : va_E} {f fz : Nat → Int32} (h : x = aZ G 5 f) (h0 : ∀ q, q < 5 → f q = 0) (h1 : ∀ q, 5 ≤ q → f q = fz q) (hz : ∀ q, fz q = 0 ∨ fz q = 1) : HasTy G ad (TyM 79) x :=
  ⟨fun q => absurd (show (3 : Nat) = 0 from q) (by decide), fun q => absurd (show (3 : Nat) = 1 from q) (by decide), fun q => absurd (show (3 : Nat) = 2 from q) (by decide), fun _ => ⟨f, h, fun q => by by_cases hq : q < 5; (exact Or.inl (h0 q hq)); (rw [h1 q (by omega)]; exact hz q)⟩⟩
theorem ty88 {x : va_E} {f : Nat → Int32} (h : x = aI G 6 f) (hb : ∀ q, 0 ≤ (f q).toInt ∧ (f q).toInt ≤ 10) : HasTy G ad (TyM 88) x :=
  ⟨fun q => absurd (show (1 : Nat) = 0 from q) (by decide), fun _ => ⟨f, h, hb⟩, fun q => absurd (show (1 : Nat) = 2 from q) (by decide), fun q => absurd (show (1 : Nat) = 3 from q) (by decide)⟩
theorem upd_b {f : Nat → Int32} {p : Nat} {z : Int32} (h : ∀ i, 0 ≤ (f i).toInt ∧ (f i).toInt ≤ 10) (hz : 0 ≤ z.toInt ∧ z.toInt ≤ 10) : ∀ i, 0 ≤ (upd f p z i).toInt ∧ (upd f p z i).toInt ≤ 10 := by
  intro i
  by_cases q : i = p
  · subst q; simpa [upd] using hz
  · simpa [upd, q] using h i
theorem LXg_up {gop gx : Nat → Int32} {p : Nat} {q x : Int32} (h : LXg gop gx) (hq : (q.toInt = 1 ∨ q.toInt = 4) → 0 ≤ x.toInt ∧ x.toInt ≤ 4) : LXg (upd gop p q) (upd gx p x) := by
  intro j hj hh
  by_cases e : j = p
  · subst e
    simp only [upd, if_true] at hh ⊢
    exact hq hh
  · simp only [upd, if_neg e] at hh ⊢
    exact h j hj hh
theorem HasTy.go {t : CT} {x : va_E} {N : Nat} (h : HasTy G ad t x) (hA : ∀ j, j < N → ad1 j = ad j) (hL : ∀ c ∈ t.2.2.1, c < N) : HasTy G ad1 t x := by
  refine ⟨fun h0 => ?_, h.2⟩
  obtain ⟨i, e, b⟩ := h.1 h0
  exact ⟨i, by rw [e, rfs_new hA hL], b⟩
theorem znT_L {b r c : Nat} (h : c ∈ (znT b r).2.2.1) : b < c ∧ c ≤ b + 8 := by
  unfold znT at h
  by_cases h0 : r = 0
  · rw [if_pos h0] at h
    simp only [List.mem_cons, List.not_mem_nil, or_false] at h
    omega
  · rw [if_neg h0] at h
    by_cases h3 : r = 3
    · rw [if_pos h3] at h; simp at h
    · rw [if_neg h3] at h
      by_cases h6 : r < 6
      · rw [if_pos h6] at h; simp at h
      · rw [if_neg h6] at h; simp at h
theorem pgT_L {b r c : Nat} (h : c ∈ (pgT b r).2.2.1) : b < c ∧ c ≤ b + 5 := by
  unfold pgT at h
  by_cases h0 : r = 0
  · rw [if_pos h0] at h
    simp only [List.mem_cons, List.not_mem_nil, or_false] at h
    omega
  · rw [if_neg h0] at h
    by_cases h3 : r = 5
    · rw [if_pos h3] at h; simp at h
    · rw [if_neg h3] at h; simp at h
theorem Ty8_L {j : Nat} (hj : j < 98 + 9 * k) : ∀ c ∈ (Ty8 k j).2.2.1, c < 98 + 9 * k := by
  intro c hc
  unfold Ty8 at hc
  by_cases h1 : 98 ≤ j
  · rw [if_pos h1] at hc
    have := znT_L hc
    omega
  rw [if_neg h1] at hc
  by_cases h2 : 9 ≤ j ∧ j < 45
  · rw [if_pos h2] at hc
    have := pgT_L hc
    omega
  rw [if_neg h2] at hc
  by_cases h3 : 52 ≤ j ∧ j < 64
  · rw [if_pos h3] at hc
    have := pgT_L hc
    omega
  rw [if_neg h3] at hc
  by_cases q : j = 6
  · rw [if_pos q] at hc
    simp only [List.mem_cons, List.not_mem_nil, or_false] at hc
    omega
  rw [if_neg q] at hc
  clear q
  by_cases q : j = 45
  · rw [if_pos q] at hc
    simp only [List.mem_cons, List.not_mem_nil, or_false] at hc
    omega
  rw [if_neg q] at hc
  clear q
  by_cases q : j = 46
  · rw [if_pos q] at hc
    simp only [List.mem_cons, List.not_mem_nil, or_false] at hc
  rw [if_neg q] at hc
  clear q
  by_cases q : j = 47
  · rw [if_pos q] at hc
    simp only [List.mem_cons, List.not_mem_nil, or_false] at hc
  rw [if_neg q] at hc
  clear q
  by_cases q : j = 48
  · rw [if_pos q] at hc
    simp only [List.mem_cons, List.not_mem_nil, or_false] at hc
    omega
  rw [if_neg q] at hc
  clear q
  by_cases q : j = 49
  · rw [if_pos q] at hc
    simp only [List.mem_cons, List.not_mem_nil, or_false] at hc
    omega
  rw [if_neg q] at hc
  clear q
  by_cases q : j = 50
  · rw [if_pos q] at hc
    simp only [List.mem_cons, List.not_mem_nil, or_false] at hc
  rw [if_neg q] at hc
  clear q
  by_cases q : j = 51
  · rw [if_pos q] at hc
    simp only [List.mem_cons, List.not_mem_nil, or_false] at hc
    omega
  rw [if_neg q] at hc
  clear q
  by_cases q : j = 64
  · rw [if_pos q] at hc
    simp only [List.mem_cons, List.not_mem_nil, or_false] at hc
  rw [if_neg q] at hc
  clear q
  by_cases q : j = 65 ∨ j = 66 ∨ j = 67
  · rw [if_pos q] at hc
    simp only [List.mem_cons, List.not_mem_nil, or_false] at hc
  rw [if_neg q] at hc
  clear q
  simp only [List.not_mem_nil] at hc
theorem TyM_n0 {j : Nat} (h1 : 71 ≤ j) (h2 : j < 98) : (TyM j).1 ≠ 0 := by
  rcases (show j = 71 ∨ j = 72 ∨ j = 73 ∨ j = 74 ∨ j = 75 ∨ j = 76 ∨ j = 77 ∨ j = 78 ∨ j = 79 ∨ j = 80 ∨ j = 81 ∨ j = 82 ∨ j = 83 ∨ j = 84 ∨ j = 85 ∨ j = 86 ∨ j = 87 ∨ j = 88 ∨ j = 89 ∨ j = 90 ∨ j = 91 ∨ j = 92 ∨ j = 93 ∨ j = 94 ∨ j = 95 ∨ j = 96 ∨ j = 97 by omega) with rfl | rfl | rfl | rfl | rfl | rfl | rfl | rfl | rfl | rfl | rfl | rfl | rfl | rfl | rfl | rfl | rfl | rfl | rfl | rfl | rfl | rfl | rfl | rfl | rfl | rfl | rfl <;> decide
theorem Ty8_k {k2 j : Nat} (h : j ≠ 6) : Ty8 k2 j = Ty8 k j := by
  unfold Ty8
  simp only [if_neg h]
theorem zn_ty {b r : Nat} {v : Int32} (h : ZNw G ad b v E) (hr : r < 9) : HasTy G ad (znT b r) (E (b + r)) := by
  obtain ⟨h0, h1, h2, ⟨f, h3, -⟩, h4, h5, h6, h7, h8⟩ := h
  match r, hr with
  | 0, _ =>
    refine ⟨fun _ => ⟨ip0, h0.trans rfl, fun q => ?_⟩, fun q => absurd (show (0 : Nat) = 1 from q) (by decide), fun q => absurd (show (0 : Nat) = 2 from q) (by decide), fun q => absurd (show (0 : Nat) = 3 from q) (by decide)⟩
    show (bd6 q).1 ≤ (0 : Int32).toInt ∧ (0 : Int32).toInt ≤ (bd6 q).2
    unfold bd6
    split
    · decide
    · split
      · decide
      · split <;> decide
  | 1, _ => exact HasTy.any h1
  | 2, _ => exact HasTy.any h2
  | 3, _ => exact HasTy.any h3
  | 4, _ => exact HasTy.any h4
  | 5, _ => exact HasTy.any h5
  | 6, _ => exact HasTy.any h6
  | 7, _ => exact HasTy.any h7
  | 8, _ => exact HasTy.any h8
theorem C8.zone {iq iz2 : Nat → Int32} {fz : Nat → Option Nat} {v : Int32} (h : C8 G ad k ic md td kn fl E) (hk : k < 5) (hA : ∀ j, j < 98 + 9 * k → ad1 j = ad j) (hO : ∀ j, j < 98 + 9 * k → j ≠ 6 → j ≠ 7 → j ≠ 45 → E1 j = E j) (b45 : ∀ q, (bd4 q).1 ≤ (iq q).toInt ∧ (iq q).toInt ≤ (bd4 q).2) (g45 : E1 45 = ob 4 (rfs ad [46, 47]) (va_up iq 5 0)) (g6 : E1 6 = ob 7 (rfo ad1 [some 7, none]) iz2) (hz2 : (iz2 1).toInt = (k : Int) + 1) (hfz : ∀ i, i < k → fz i = some (ad (98 + 9 * i))) (g7 : E1 7 = aQ G 3 5 (va_up fz k (some (ad1 (98 + 9 * k))))) (hzn : ZNw G ad1 (98 + 9 * k) v E1) : C8 G ad1 (k + 1) ic md td kn fl E1 := by
  obtain ⟨hJ, ⟨ms, ld, ys, c1, c2, c3, c4, c5, hP, hF⟩, ⟨io, e0, h0⟩, hp⟩ := h
  obtain ⟨fp, e8, hfp⟩ := hJ.c8
  have K : ∀ (ci : Nat) (L : List Nat) (i : Nat → Int32), (∀ c ∈ L, c < 98) → ob ci (rfs ad L) i = ob ci (rfs ad1 L) i := fun ci L i hL => by rw [rfs_new (n := 98 + 9 * k) hA (fun c hc => by have := hL c hc; omega)]
  have O : ∀ j, j < 98 → j ≠ 6 → j ≠ 7 → j ≠ 45 → E1 j = E j := fun j h1 h2 h3 h4 => hO j (by omega) h2 h3 h4
  have hC : CalW G ad1 E1 ic md := ⟨ms, ld, ys, (O 1 (by decide) (by decide) (by decide) (by decide)).trans (c1.trans (K _ _ _ (by decide))), (O 2 (by decide) (by decide) (by decide) (by decide)).trans c2, (O 3 (by decide) (by decide) (by decide) (by decide)).trans c3, (O 4 (by decide) (by decide) (by decide) (by decide)).trans c4, (O 5 (by decide) (by decide) (by decide) (by decide)).trans c5, hP, hF⟩
  have hO0 : E1 0 = ob 8 (rfs ad1 [1, 6, 8, 48, 45, 51]) io := (O 0 (by decide) (by decide) (by decide) (by decide)).trans (e0.trans (K _ _ _ (by decide)))
  refine ⟨⟨by omega, ⟨⟨io, hO0⟩, ⟨ic, md, hC⟩, ⟨_, g7, fun i hi => ?_⟩, fp, (O 8 (by decide) (by decide) (by decide) (by decide)).trans e8, fun i hi => by rw [hfp i hi, hA _ (by omega)]⟩, fun _ _ => rfl, fun j hj => ?_⟩, hC, ⟨io, hO0, h0⟩, fun p hpp => ?_⟩
  · by_cases q : i = k
    · subst q; simp [va_up]
    · simp only [va_up, if_neg q]
      rw [hfz i (by omega), hA _ (by omega)]
  · by_cases q6 : j = 6
    · subst q6
      refine ⟨fun _ => ⟨iz2, g6.trans rfl, fun q => ?_⟩, fun q => absurd (show (0 : Nat) = 1 from q) (by decide), fun q => absurd (show (0 : Nat) = 2 from q) (by decide), fun q => absurd (show (0 : Nat) = 3 from q) (by decide)⟩
      show (bd7 (k + 1) q).1 ≤ (iz2 q).toInt ∧ (iz2 q).toInt ≤ (bd7 (k + 1) q).2
      unfold bd7
      by_cases q1 : q = 1
      · rw [if_pos q1, q1]
        show ((k + 1 : Nat) : Int) ≤ (iz2 1).toInt ∧ (iz2 1).toInt ≤ ((k + 1 : Nat) : Int)
        omega
      · rw [if_neg q1]; exact ti_any _
    · by_cases qz : 98 + 9 * k ≤ j
      · obtain ⟨r, hr, rfl⟩ : ∃ r, r < 9 ∧ j = 98 + 9 * k + r := ⟨j - (98 + 9 * k), by omega, by omega⟩
        rw [ZC.t (k := k + 1) ⟨k, by omega, rfl⟩ hr]
        exact zn_ty hzn hr
      · rw [Ty8_k (k := k) q6]
        by_cases q5 : j = 45
        · rw [q5]; exact (ty45 (k := k) b45 g45).go hA (Ty8_L (by omega))
        · by_cases q7 : j = 7
          · rw [Ty8_low (by omega)]; exact HasTy.out
          · rw [hO j (by omega) q6 q7 q5]
            exact (hJ.2.2.2 j (by omega)).go hA (Ty8_L (by omega))
  · obtain ⟨ip, e1, e2⟩ := hp p hpp
    refine ⟨ip, (O _ (by omega) (by omega) (by omega) (by omega)).trans (e1.trans ?_), e2⟩
    unfold rP
    rw [K _ _ _ (fun c hc => by simp only [List.mem_cons, List.not_mem_nil, or_false] at hc; omega)]
theorem R9.zone (h : R9 G ad n k ic md td kn fl E) (hn1 : n ≤ n1) (hA : ∀ j, j < n → ad1 j = ad j) (hE : ∀ j, 68 ≤ j → j < 98 → E1 j = E j) : R9 G ad1 n1 k ic md td kn fl E1 := by
  have hn := h.hn
  obtain ⟨⟨⟨im, ⟨a1, a2, a3, a4, a5, mf, a6, a7, a8⟩, hb⟩, ⟨-, hT⟩, -, h7, h16⟩, gop, gx, gy, e1, e2, e3, e4, h5⟩ := h
  have K := fun j h1 h2 => hE j h1 h2
  refine ⟨⟨⟨im, ⟨a1, a2, ?_, (hE _ (by decide) (by decide)).trans a4, a5, mf, (hE _ (by decide) (by decide)).trans a6, a7, a8⟩, hb⟩, ⟨fun _ _ => rfl, fun j hj => ?_⟩, by omega, h7, h16⟩, gop, gx, gy, (hE _ (by decide) (by decide)).trans e1, (hE _ (by decide) (by decide)).trans e2, (hE _ (by decide) (by decide)).trans e3, (hE _ (by decide) (by decide)).trans e4, h5⟩
  · rw [hE 68 (by decide) (by decide), a3]
    unfold rX9
    rw [rfs_new (n := 98) (fun j hj => hA j (by omega)) (by decide)]
  · by_cases q : j < 71 ∨ 98 ≤ j
    · rw [TyM_out q]; exact HasTy.out
    · rw [hE j (by omega) (by omega)]
      refine ⟨fun h0 => ?_, (hT j (by omega)).2⟩
      exact absurd h0 (TyM_n0 (by omega) (by omega))
end INV3
