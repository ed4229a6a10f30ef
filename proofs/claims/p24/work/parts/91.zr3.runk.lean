/-! ===== two contracts of one method hold together ===== -/
theorem met_and {l : Launch} {x : MethodName} {S : Spec} {P : Array Value → State → Prop} {K : Program → Env → List Frame → State → Array Value → Prop} {Q1 Q2 : Array Value → State → Outcome → State → Prop} (h1 : MetFree l x S P K Q1) (h2 : MetFree l x S P K Q2) : MetFree l x S P K (fun a s o t => Q1 a s o t ∧ Q2 a s o t) := by
  intro p e ha hc hk s m args below hf happ hP hK
  obtain ⟨n0, o0, w0, r0, e0, q0⟩ := h1 p e ha hc hk s m args below hf happ hP hK
  refine ⟨n0, o0, w0, r0, e0, q0, ?_⟩
  obtain ⟨n, o, w, r, en, q⟩ := h2 p e ha hc hk s m args below hf happ hP hK
  have hn : n = n0 := by
    rcases Nat.lt_trichotomy n n0 with hlt | heq | hgt
    · exact absurd (w0 n hlt) en.not_within
    · exact heq
    · exact absurd (w n0 hgt) e0.not_within
  subst hn
  rw [e0.outcome_unique en]
  exact q
/-- what one tells of the answer, the other of the world -/
theorem CtI.ans {l : Launch} {G : Gl} {y : MethodName} {cc : ByteArray} {maxL : Nat} {ret : FieldType} {fr lo : Nat} {n : Nat} {ad : Nat → Nat} {E : Nat → va_E} {av : List Value} {post1 post : Int32 → (Nat → va_E) → Prop} {P : Int32 → Prop} (h1 : CtI l G y cc maxL ret fr lo n ad E av post1) (hP : ∀ r E', post1 r E' → P r) (h2 : CtI l G y cc maxL ret fr lo n ad E av post) : CtI l G y cc maxL ret fr lo n ad E av (fun r E' => P r ∧ post r E') :=
  fun sz => MetFree.mono (met_and (h1 sz) (h2 sz)) (fun _ _ h => h) (fun _ _ _ _ _ h => h) (fun _ _ _ _ _ hQ => by
    obtain ⟨⟨⟨⟨r1, u1, e1, q1, b1⟩, f1⟩, l1⟩, ⟨⟨r2, u2, e2, q2, b2⟩, f2⟩, l2⟩ := hQ
    have e : r1 = r2 := by rw [e1] at e2; injection e2 with e3; injection e3 with e4; injection e4
    subst e
    exact ⟨⟨⟨r1, u2, e2, ⟨hP r1 u1 q1, q2⟩, b2⟩, f2⟩, l2⟩)
/-! ===== the class, its zones known ===== -/
def KSt (G : Gl) (ad : Nat → Nat) (k : Nat) (ic md : Nat → Int32) (TT : Nat → TST) (E : Nat → va_E) : Prop := (∃ i49 : Nat → Int32, E 49 = ob 2 (rfs ad [1, 6, 50]) i49) ∧ CalW G ad E ic md ∧ (∃ (iz : Nat → Int32) (fz : Nat → Option Nat), E 6 = ob 7 (rfs ad [7]) iz ∧ (iz 1).toInt = (k : Int) ∧ E 7 = aQ G 3 5 fz ∧ ∀ i, i < k → fz i = some (ad (98 + 9 * i))) ∧ (∀ i, i < k → ZYp G ad (98 + 9 * i) (TT i) E ∧ okT 69300000 (TT i)) ∧ k ≤ 5
theorem ZYp.go {G : Gl} {ad : Nat → Nat} {b : Nat} {T : TST} {E E1 : Nat → va_E} (h : ZYp G ad b T E) (o : ∀ j, b ≤ j → j < b + 9 → E1 j = E j) : ZYp G ad b T E1 := by
  obtain ⟨ib, ss, se, os, c, h0, h6, h7, h8, r⟩ := h
  exact ⟨ib, ss, se, os, c, (o _ (by omega) (by omega)).trans h0, (o _ (by omega) (by omega)).trans h6, (o _ (by omega) (by omega)).trans h7, (o _ (by omega) (by omega)).trans h8, r⟩
theorem CalW.go {G : Gl} {ad : Nat → Nat} {E E1 : Nat → va_E} {ic md : Nat → Int32} (h : CalW G ad E ic md) (o : ∀ j, j < 6 → E1 j = E j) : CalW G ad E1 ic md := by
  obtain ⟨ms, ld, ys, h1, h2, h3, h4, h5, r⟩ := h
  exact ⟨ms, ld, ys, (o 1 (by decide)).trans h1, (o 2 (by decide)).trans h2, (o 3 (by decide)).trans h3, (o 4 (by decide)).trans h4, (o 5 (by decide)).trans h5, r⟩
theorem KSt.go {G : Gl} {ad : Nat → Nat} {k : Nat} {ic md : Nat → Int32} {TT : Nat → TST} {E E1 : Nat → va_E} (h : KSt G ad k ic md TT E) (o : ∀ j, (j < 45 ∨ j = 49 ∨ 98 ≤ j) → E1 j = E j) : KSt G ad k ic md TT E1 := by
  obtain ⟨⟨i49, h49⟩, hC, ⟨iz, fz, h6, hzk, h7, hfz⟩, hZ, hk⟩ := h
  exact ⟨⟨i49, (o 49 (by omega)).trans h49⟩, hC.go (fun j hj => o j (by omega)), ⟨iz, fz, (o 6 (by omega)).trans h6, hzk, (o 7 (by omega)).trans h7, hfz⟩, fun i hi => ⟨(hZ i hi).1.go (fun j h1 _ => o j (by omega)), (hZ i hi).2⟩, hk⟩
section REF1
variable {G : Gl} {ad : Nat → Nat} {k : Nat} {ic md rf rto ron rat rbe rtd rm fv : Nat → Int32} {E0 E E1 : Nat → va_E}
/-- a refresh of one zone: nothing else changes -/
theorem ZCl.refr1 (l : Launch) (hP : CalP ic md) (hV : ∀ z, z < k → RZv ic rf rto ron rat rbe rtd rm fv z) {i : Nat} (hi : i < k) (hZ : ZCl G ad k ic md rf rto ron rat rbe rtd rm fv E) (x : Int32) : CtV l G yX6_refresh cX6_refresh 4 2 50 (98 + 9 * k) ad E [.ref (ad (98 + 9 * i)), .int x] (fun E' => ZCl G ad k ic md rf rto ron rat rbe rtd rm fv E' ∧ ZYp G ad (98 + 9 * i) (TTz ic md rf rto ron rat rbe rtd rm fv x.toInt i) E' ∧ ∀ j, (j < 98 + 9 * i ∨ 98 + 9 * i + 9 ≤ j) → E' j = E j) := by
  obtain ⟨b, hbi⟩ : ∃ b : Nat, b = 98 + 9 * i := ⟨_, rfl⟩
  have hz1 := hZ i hi
  rw [← hbi] at hz1 ⊢
  obtain ⟨ib, to, ro, rw1, yw, yo, ss, se, os, rt, R, g0, g1, g2, g3, g4, g5, g6, g7, g8, eR, e8, e9, hrt, s0, v0, hto, hrw, hZR, hEN⟩ := hz1
  have hv := hV i hi
  have hRn : (rm i).toInt.toNat = R := by omega
  have hR8 : R ≤ 8 := by have := hv.1; omega
  have hVs := hv.2.1
  rw [hRn] at hVs
  have hcg : ∀ m, m ≤ R → alL (fun r y => (rw1 (100 * r + y)).toInt) (fun r => (ro r).toInt) m 100 = alL (WZ ic md rf rto ron rat i R) (BZ rbe i) m 100 := fun m hm => al_congr 100 (fun r y h1 h2 => ⟨hrw r y (by omega) h2, (hto r (by omega)).2⟩)
  have hWB : WBp (fun r y => (rw1 (100 * r + y)).toInt) (fun r => (ro r).toInt) R 69300000 := by
    have q := WZ_bd hP hVs
    refine ⟨fun r y h1 h2 => ?_, fun r h1 => ?_⟩
    · show (rw1 (100 * r + y)).toInt = -1 ∨ (0 ≤ (rw1 (100 * r + y)).toInt ∧ (rw1 (100 * r + y)).toInt ≤ 69300000)
      rw [hrw r y (by omega) h2]; exact q.1 r y h1 h2
    · show -720 ≤ (ro r).toInt ∧ (ro r).toInt ≤ 720
      rw [(hto r h1).2]; exact q.2 r h1
  refine (z_refresh l G (98 + 9 * k) ad E b (by omega) g0 g2 g3 g4 g5 g6 g7 g8 g1 (rt := rt) (R := R) e9 e8 hR8 s0 (by rw [v0]; exact hv.2.2) (D := 69300000) ⟨by decide, by decide⟩ hWB (by rw [v0, hcg rt hrt]; exact hZR) hEN x).mono (fun E' hp => ?_)
  obtain ⟨ib1, yw1, yo1, ss1, se1, os1, a0, a9, ak, a4, a5, a6, a7, a8, aZ, aE, aO⟩ := hp
  have hcn : cntT to x.toInt R = cntT (tdz rtd i) x.toInt R := cnt_congr R (fun r hr => (hto r hr).1)
  rw [v0, hcn, hcg _ (cntT_le R)] at aZ
  have hTe : TTz ic md rf rto ron rat rbe rtd rm fv x.toInt i = TKl (fv i).toInt (alL (WZ ic md rf rto ron rat i R) (BZ rbe i) (cntT (tdz rtd i) x.toInt R) 100) := by
    unfold TTz LLz
    rw [hRn, al_rg (WZ_YR hP hVs)]
  have hok := TTz_ok (kn := x.toInt) hP hv
  rw [hTe] at hok
  have hz0 := (aZ.2 0 (Nat.zero_le _))
  have hN : ZN1 G ad b i ic md rf rto ron rat rbe rtd rm fv E' := by
    refine ⟨ib1, to, ro, rw1, yw1, yo1, ss1, se1, os1, cntT (tdz rtd i) x.toInt R, R, a0, (aO _ (by omega) (by omega) (by omega) (by omega) (by omega) (by omega)).trans g1, (aO _ (by omega) (by omega) (by omega) (by omega) (by omega) (by omega)).trans g2, (aO _ (by omega) (by omega) (by omega) (by omega) (by omega) (by omega)).trans g3, a4, a5, a6, a7, a8, eR, ?_, ?_, cntT_le R, ?_, ?_, hto, hrw, aZ, aE⟩
    · rw [ak 8 (by decide) (by decide)]; exact e8
    · rw [a9, hcn]
    · rw [hz0.1]; exact hok.1.1
    · rw [hz0.2]; exact TK_v0 _
  refine ⟨fun i2 hi2 => ?_, ?_, fun j hj => aO j (by omega) (by omega) (by omega) (by omega) (by omega) (by omega)⟩
  · by_cases q : i2 = i
    · subst q; rw [← hbi]; exact hN
    · exact (hZ i2 hi2).go (fun j h1 h2 => aO j (by omega) (by omega) (by omega) (by omega) (by omega) (by omega))
  · rw [hTe]
    obtain ⟨c, hc⟩ : ∃ c : Nat, (ib1 10).toInt = (c : Int) := ⟨_, aZ.1.symm⟩
    have q := STR_of hc hok.1 (by decide) hok.2 aZ aE
    exact ⟨ib1, ss1, se1, os1, c, a0, a6, a7, a8, hc, q.1, by rw [← hc]; exact aZ, q.2⟩
end REF1
theorem mnF_fd {ic md : Nat → Int32} (hP : CalP ic md) {y m : Nat} {d n e : Int} (hy : y < 100) (hm : m < 12) (h1 : FDf ic md y m ≤ d) (h2 : d < FDf ic md y (m + 1)) : MOf ic md (12 * y + m) (d - FDf ic md y m) n e = mnF ic md d n e := by
  rw [← FK_of hm]
  refine mnF_eq hP (by omega) (by rw [FK_of hm]; exact h1) ?_
  rw [FK_next hP, FK_of hm, LK_of hm, ← FD_next]
  exact h2
/-- a pile and what it stands for -/
theorem av_up {pv : Nat → Int32} {V : Nat → Int} {h h' k : Nat} {v : Int32} {x : Int} (ha : ∀ j, j < h → (pv j).toInt = V j) (hv : v.toInt = x) (hk : ∀ j, j < h' → j ≠ k → j < h) : ∀ j, j < h' → (upd pv k v j).toInt = updI V k x j := by
  intro j hj
  by_cases c : j = k
  · rw [c, upd_same, updI_same]; exact hv
  · rw [upd_ne c, updI_ne c]; exact ha j (hk j hj c)
theorem FT_0 {h h1 : Int} {K K1 : Nat → Int32} (hf : FTs 0 h K = some (h1, K1)) : (h < 8) ∧ h1 = h + 1 ∧ K1 = upd K h.toNat 0 := by
  unfold FTs at hf
  rw [if_pos rfl] at hf
  split at hf
  · rename_i g
    injection hf with q
    injection q with q1 q2
    exact ⟨g, q1.symm, q2.symm⟩
  · cases hf
theorem FT_1 {h h1 : Int} {K K1 : Nat → Int32} (hf : FTs 1 h K = some (h1, K1)) : (1 ≤ h ∧ (K (h - 1).toNat).toInt = 0) ∧ h1 = h ∧ K1 = upd K (h - 1).toNat 1 := by
  unfold FTs at hf
  rw [if_neg (by decide), if_pos rfl] at hf
  split at hf
  · rename_i g
    injection hf with q
    injection q with q1 q2
    exact ⟨g, q1.symm, q2.symm⟩
  · cases hf
theorem FT_2 {h h1 : Int} {K K1 : Nat → Int32} (hf : FTs 2 h K = some (h1, K1)) : (1 ≤ h ∧ (K (h - 1).toNat).toInt = 1) ∧ h1 = h ∧ K1 = upd K (h - 1).toNat 2 := by
  unfold FTs at hf
  rw [if_neg (by decide), if_neg (by decide), if_pos rfl] at hf
  split at hf
  · rename_i g
    injection hf with q
    injection q with q1 q2
    exact ⟨g, q1.symm, q2.symm⟩
  · cases hf
theorem FT_3 {h h1 : Int} {K K1 : Nat → Int32} (hf : FTs 3 h K = some (h1, K1)) : (1 ≤ h ∧ (K (h - 1).toNat).toInt = 2) ∧ h1 = h ∧ K1 = upd K (h - 1).toNat 1 := by
  unfold FTs at hf
  rw [if_neg (by decide), if_neg (by decide), if_neg (by decide), if_pos rfl] at hf
  split at hf
  · rename_i g
    injection hf with q
    injection q with q1 q2
    exact ⟨g, q1.symm, q2.symm⟩
  · cases hf
theorem FT_4 {h h1 : Int} {K K1 : Nat → Int32} (hf : FTs 4 h K = some (h1, K1)) : (1 ≤ h ∧ (K (h - 1).toNat).toInt = 1) ∧ h1 = h ∧ K1 = upd K (h - 1).toNat 0 := by
  unfold FTs at hf
  rw [if_neg (by decide), if_neg (by decide), if_neg (by decide), if_neg (by decide), if_pos rfl] at hf
  split at hf
  · rename_i g
    injection hf with q
    injection q with q1 q2
    exact ⟨g, q1.symm, q2.symm⟩
  · cases hf
theorem FT_5 {h h1 : Int} {K K1 : Nat → Int32} (hf : FTs 5 h K = some (h1, K1)) : (1 ≤ h ∧ ((K (h - 1).toNat).toInt = 0 ∨ (K (h - 1).toNat).toInt = 1)) ∧ h1 = h ∧ K1 = K := by
  unfold FTs at hf
  rw [if_neg (by decide), if_neg (by decide), if_neg (by decide), if_neg (by decide), if_neg (by decide), if_pos rfl] at hf
  split at hf
  · rename_i g
    injection hf with q
    injection q with q1 q2
    exact ⟨g, q1.symm, q2.symm⟩
  · cases hf
theorem FT_6 {h h1 : Int} {K K1 : Nat → Int32} (hf : FTs 6 h K = some (h1, K1)) : (1 ≤ h ∧ ((K (h - 1).toNat).toInt = 2 ∨ (K (h - 1).toNat).toInt = 1)) ∧ h1 = h ∧ K1 = K := by
  unfold FTs at hf
  rw [if_neg (by decide), if_neg (by decide), if_neg (by decide), if_neg (by decide), if_neg (by decide), if_neg (by decide), if_pos rfl] at hf
  split at hf
  · rename_i g
    injection hf with q
    injection q with q1 q2
    exact ⟨g, q1.symm, q2.symm⟩
  · cases hf
theorem FT_7 {h h1 : Int} {K K1 : Nat → Int32} (hf : FTs 7 h K = some (h1, K1)) : (1 ≤ h ∧ (K (h - 1).toNat).toInt = 2) ∧ h1 = h ∧ K1 = K := by
  unfold FTs at hf
  rw [if_neg (by decide), if_neg (by decide), if_neg (by decide), if_neg (by decide), if_neg (by decide), if_neg (by decide), if_neg (by decide), if_pos rfl] at hf
  split at hf
  · rename_i g
    injection hf with q
    injection q with q1 q2
    exact ⟨g, q1.symm, q2.symm⟩
  · cases hf
theorem FT_8 {h h1 : Int} {K K1 : Nat → Int32} (hf : FTs 8 h K = some (h1, K1)) : (2 ≤ h ∧ (K (h - 1).toNat).toInt = (K (h - 2).toNat).toInt ∧ (K (h - 1).toNat).toInt ≠ 3) ∧ h1 = h - 1 ∧ K1 = upd K (h - 2).toNat 3 := by
  unfold FTs at hf
  rw [if_neg (by decide), if_neg (by decide), if_neg (by decide), if_neg (by decide), if_neg (by decide), if_neg (by decide), if_neg (by decide), if_neg (by decide), if_pos rfl] at hf
  split at hf
  · rename_i g
    injection hf with q
    injection q with q1 q2
    exact ⟨g, q1.symm, q2.symm⟩
  · cases hf
theorem FT_9 {h h1 : Int} {K K1 : Nat → Int32} (hf : FTs 9 h K = some (h1, K1)) : (2 ≤ h ∧ (K (h - 1).toNat).toInt = 3 ∧ ((K (h - 2).toNat).toInt = 0 ∨ (K (h - 2).toNat).toInt = 1)) ∧ h1 = h - 1 ∧ K1 = K := by
  unfold FTs at hf
  rw [if_neg (by decide), if_neg (by decide), if_neg (by decide), if_neg (by decide), if_neg (by decide), if_neg (by decide), if_neg (by decide), if_neg (by decide), if_neg (by decide), if_pos rfl] at hf
  split at hf
  · rename_i g
    injection hf with q
    injection q with q1 q2
    exact ⟨g, q1.symm, q2.symm⟩
  · cases hf
theorem FT_10 {h h1 : Int} {K K1 : Nat → Int32} (hf : FTs 10 h K = some (h1, K1)) : (1 ≤ h ∧ h < 8) ∧ h1 = h + 1 ∧ K1 = upd K h.toNat (K (h - 1).toNat) := by
  unfold FTs at hf
  rw [if_neg (by decide), if_neg (by decide), if_neg (by decide), if_neg (by decide), if_neg (by decide), if_neg (by decide), if_neg (by decide), if_neg (by decide), if_neg (by decide), if_neg (by decide), if_pos rfl] at hf
  split at hf
  · rename_i g
    injection hf with q
    injection q with q1 q2
    exact ⟨g, q1.symm, q2.symm⟩
  · cases hf
theorem FT_11 {h h1 : Int} {K K1 : Nat → Int32} (hf : FTs 11 h K = some (h1, K1)) : (2 ≤ h) ∧ h1 = h ∧ K1 = upd (upd K (h - 1).toNat (K (h - 2).toNat)) (h - 2).toNat (K (h - 1).toNat) := by
  unfold FTs at hf
  rw [if_neg (by decide), if_neg (by decide), if_neg (by decide), if_neg (by decide), if_neg (by decide), if_neg (by decide), if_neg (by decide), if_neg (by decide), if_neg (by decide), if_neg (by decide), if_neg (by decide)] at hf
  split at hf
  · rename_i g
    injection hf with q
    injection q with q1 q2
    exact ⟨g, q1.symm, q2.symm⟩
  · cases hf
theorem VS_0 {ic md : Nat → Int32} {TT : Nat → TST} {x y m h q : Int} {K : Nat → Int32} {V : Nat → Int} : VSf ic md TT 0 x y m h K q V = some (updI V h.toNat m) := by
  unfold VSf
  rw [if_pos rfl]
theorem VS_10 {ic md : Nat → Int32} {TT : Nat → TST} {x y m h q : Int} {K : Nat → Int32} {V : Nat → Int} : VSf ic md TT 10 x y m h K q V = some (updI V h.toNat (V (h - 1).toNat)) := by
  unfold VSf
  rw [if_neg (by decide), if_pos rfl]
theorem VS_11 {ic md : Nat → Int32} {TT : Nat → TST} {x y m h q : Int} {K : Nat → Int32} {V : Nat → Int} : VSf ic md TT 11 x y m h K q V = some (updI (updI V (h - 1).toNat (V (h - 2).toNat)) (h - 2).toNat (V (h - 1).toNat)) := by
  unfold VSf
  rw [if_neg (by decide), if_neg (by decide), if_pos rfl]
theorem VS_8 {ic md : Nat → Int32} {TT : Nat → TST} {x y m h q : Int} {K : Nat → Int32} {V : Nat → Int} (hw : wiK ic md q (jnV 8 (K (h - 1).toNat).toInt (V (h - 2).toNat) (V (h - 1).toNat))) : VSf ic md TT 8 x y m h K q V = some (updI V (h - 2).toNat (jnV 8 (K (h - 1).toNat).toInt (V (h - 2).toNat) (V (h - 1).toNat))) := by
  unfold VSf
  rw [if_neg (by decide), if_neg (by decide), if_neg (by decide), if_pos (by decide), if_pos hw]
theorem VS_8n {ic md : Nat → Int32} {TT : Nat → TST} {x y m h q : Int} {K : Nat → Int32} {V : Nat → Int} (hw : ¬ wiK ic md q (jnV 8 (K (h - 1).toNat).toInt (V (h - 2).toNat) (V (h - 1).toNat))) : VSf ic md TT 8 x y m h K q V = none := by
  unfold VSf
  rw [if_neg (by decide), if_neg (by decide), if_neg (by decide), if_pos (by decide), if_neg hw]
theorem VS_9 {ic md : Nat → Int32} {TT : Nat → TST} {x y m h q : Int} {K : Nat → Int32} {V : Nat → Int} (hw : wiK ic md q (jnV 9 (K (h - 1).toNat).toInt (V (h - 2).toNat) (V (h - 1).toNat))) : VSf ic md TT 9 x y m h K q V = some (updI V (h - 2).toNat (jnV 9 (K (h - 1).toNat).toInt (V (h - 2).toNat) (V (h - 1).toNat))) := by
  unfold VSf
  rw [if_neg (by decide), if_neg (by decide), if_neg (by decide), if_pos (by decide), if_pos hw]
theorem VS_9n {ic md : Nat → Int32} {TT : Nat → TST} {x y m h q : Int} {K : Nat → Int32} {V : Nat → Int} (hw : ¬ wiK ic md q (jnV 9 (K (h - 1).toNat).toInt (V (h - 2).toNat) (V (h - 1).toNat))) : VSf ic md TT 9 x y m h K q V = none := by
  unfold VSf
  rw [if_neg (by decide), if_neg (by decide), if_neg (by decide), if_pos (by decide), if_neg hw]
theorem VS_1 {ic md : Nat → Int32} {TT : Nat → TST} {x y m h q : Int} {K : Nat → Int32} {V : Nat → Int} (hw : wiK ic md q (chV ic md TT 1 x y (K (h - 1).toNat).toInt (V (h - 1).toNat))) : VSf ic md TT 1 x y m h K q V = some (updI V (h - 1).toNat (chV ic md TT 1 x y (K (h - 1).toNat).toInt (V (h - 1).toNat))) := by
  unfold VSf
  rw [if_neg (by decide), if_neg (by decide), if_neg (by decide), if_neg (by decide), if_pos hw]
theorem VS_1n {ic md : Nat → Int32} {TT : Nat → TST} {x y m h q : Int} {K : Nat → Int32} {V : Nat → Int} (hw : ¬ wiK ic md q (chV ic md TT 1 x y (K (h - 1).toNat).toInt (V (h - 1).toNat))) : VSf ic md TT 1 x y m h K q V = none := by
  unfold VSf
  rw [if_neg (by decide), if_neg (by decide), if_neg (by decide), if_neg (by decide), if_neg hw]
theorem VS_2 {ic md : Nat → Int32} {TT : Nat → TST} {x y m h q : Int} {K : Nat → Int32} {V : Nat → Int} (hw : wiK ic md q (chV ic md TT 2 x y (K (h - 1).toNat).toInt (V (h - 1).toNat))) : VSf ic md TT 2 x y m h K q V = some (updI V (h - 1).toNat (chV ic md TT 2 x y (K (h - 1).toNat).toInt (V (h - 1).toNat))) := by
  unfold VSf
  rw [if_neg (by decide), if_neg (by decide), if_neg (by decide), if_neg (by decide), if_pos hw]
theorem VS_2n {ic md : Nat → Int32} {TT : Nat → TST} {x y m h q : Int} {K : Nat → Int32} {V : Nat → Int} (hw : ¬ wiK ic md q (chV ic md TT 2 x y (K (h - 1).toNat).toInt (V (h - 1).toNat))) : VSf ic md TT 2 x y m h K q V = none := by
  unfold VSf
  rw [if_neg (by decide), if_neg (by decide), if_neg (by decide), if_neg (by decide), if_neg hw]
theorem VS_3 {ic md : Nat → Int32} {TT : Nat → TST} {x y m h q : Int} {K : Nat → Int32} {V : Nat → Int} (hw : wiK ic md q (chV ic md TT 3 x y (K (h - 1).toNat).toInt (V (h - 1).toNat))) : VSf ic md TT 3 x y m h K q V = some (updI V (h - 1).toNat (chV ic md TT 3 x y (K (h - 1).toNat).toInt (V (h - 1).toNat))) := by
  unfold VSf
  rw [if_neg (by decide), if_neg (by decide), if_neg (by decide), if_neg (by decide), if_pos hw]
theorem VS_3n {ic md : Nat → Int32} {TT : Nat → TST} {x y m h q : Int} {K : Nat → Int32} {V : Nat → Int} (hw : ¬ wiK ic md q (chV ic md TT 3 x y (K (h - 1).toNat).toInt (V (h - 1).toNat))) : VSf ic md TT 3 x y m h K q V = none := by
  unfold VSf
  rw [if_neg (by decide), if_neg (by decide), if_neg (by decide), if_neg (by decide), if_neg hw]
theorem VS_4 {ic md : Nat → Int32} {TT : Nat → TST} {x y m h q : Int} {K : Nat → Int32} {V : Nat → Int} (hw : wiK ic md q (chV ic md TT 4 x y (K (h - 1).toNat).toInt (V (h - 1).toNat))) : VSf ic md TT 4 x y m h K q V = some (updI V (h - 1).toNat (chV ic md TT 4 x y (K (h - 1).toNat).toInt (V (h - 1).toNat))) := by
  unfold VSf
  rw [if_neg (by decide), if_neg (by decide), if_neg (by decide), if_neg (by decide), if_pos hw]
theorem VS_4n {ic md : Nat → Int32} {TT : Nat → TST} {x y m h q : Int} {K : Nat → Int32} {V : Nat → Int} (hw : ¬ wiK ic md q (chV ic md TT 4 x y (K (h - 1).toNat).toInt (V (h - 1).toNat))) : VSf ic md TT 4 x y m h K q V = none := by
  unfold VSf
  rw [if_neg (by decide), if_neg (by decide), if_neg (by decide), if_neg (by decide), if_neg hw]
theorem VS_5 {ic md : Nat → Int32} {TT : Nat → TST} {x y m h q : Int} {K : Nat → Int32} {V : Nat → Int} (hw : wiK ic md q (chV ic md TT 5 x y (K (h - 1).toNat).toInt (V (h - 1).toNat))) : VSf ic md TT 5 x y m h K q V = some (updI V (h - 1).toNat (chV ic md TT 5 x y (K (h - 1).toNat).toInt (V (h - 1).toNat))) := by
  unfold VSf
  rw [if_neg (by decide), if_neg (by decide), if_neg (by decide), if_neg (by decide), if_pos hw]
theorem VS_5n {ic md : Nat → Int32} {TT : Nat → TST} {x y m h q : Int} {K : Nat → Int32} {V : Nat → Int} (hw : ¬ wiK ic md q (chV ic md TT 5 x y (K (h - 1).toNat).toInt (V (h - 1).toNat))) : VSf ic md TT 5 x y m h K q V = none := by
  unfold VSf
  rw [if_neg (by decide), if_neg (by decide), if_neg (by decide), if_neg (by decide), if_neg hw]
theorem VS_6 {ic md : Nat → Int32} {TT : Nat → TST} {x y m h q : Int} {K : Nat → Int32} {V : Nat → Int} (hw : wiK ic md q (chV ic md TT 6 x y (K (h - 1).toNat).toInt (V (h - 1).toNat))) : VSf ic md TT 6 x y m h K q V = some (updI V (h - 1).toNat (chV ic md TT 6 x y (K (h - 1).toNat).toInt (V (h - 1).toNat))) := by
  unfold VSf
  rw [if_neg (by decide), if_neg (by decide), if_neg (by decide), if_neg (by decide), if_pos hw]
theorem VS_6n {ic md : Nat → Int32} {TT : Nat → TST} {x y m h q : Int} {K : Nat → Int32} {V : Nat → Int} (hw : ¬ wiK ic md q (chV ic md TT 6 x y (K (h - 1).toNat).toInt (V (h - 1).toNat))) : VSf ic md TT 6 x y m h K q V = none := by
  unfold VSf
  rw [if_neg (by decide), if_neg (by decide), if_neg (by decide), if_neg (by decide), if_neg hw]
theorem VS_7 {ic md : Nat → Int32} {TT : Nat → TST} {x y m h q : Int} {K : Nat → Int32} {V : Nat → Int} (hw : wiK ic md q (chV ic md TT 7 x y (K (h - 1).toNat).toInt (V (h - 1).toNat))) : VSf ic md TT 7 x y m h K q V = some (updI V (h - 1).toNat (chV ic md TT 7 x y (K (h - 1).toNat).toInt (V (h - 1).toNat))) := by
  unfold VSf
  rw [if_neg (by decide), if_neg (by decide), if_neg (by decide), if_neg (by decide), if_pos hw]
theorem VS_7n {ic md : Nat → Int32} {TT : Nat → TST} {x y m h q : Int} {K : Nat → Int32} {V : Nat → Int} (hw : ¬ wiK ic md q (chV ic md TT 7 x y (K (h - 1).toNat).toInt (V (h - 1).toNat))) : VSf ic md TT 7 x y m h K q V = none := by
  unfold VSf
  rw [if_neg (by decide), if_neg (by decide), if_neg (by decide), if_neg (by decide), if_neg hw]
