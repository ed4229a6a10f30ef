theorem ff_end {T : TST} {w to D : Int} {j : Nat} (hT : okT D T) (h1 : 1 ≤ j) (hj : j ≤ T.1) (hs : to + 720 < T.2.1 j) : ffT T w to (T.1 + 1) = ffT T w to j := by
  have h := ff_skip (T := T) (w := w) (to := to) (k := j) (T.1 + 1 - j) (fun i g1 g2 q => by
    have a1 := hT.2.2.2 i (by omega)
    have a2 := okT_le hT h1 g1 (by omega)
    have a3 := q.2
    unfold mxI at a3
    split at a3 <;> omega)
  rw [show j + (T.1 + 1 - j) = T.1 + 1 by omega] at h
  exact h

set_option maxRecDepth 20000 in
theorem z_firstOfDay (l : Launch) (G : Gl) (n : Nat) (ad : Nat → Nat) (E : Nat → va_E) (b : Nat) (hb : b + 9 ≤ n) {ib : Nat → Int32} (hB : E b = ob 6 (rfs ad [b + 1, b + 2, b + 3, b + 4, b + 5, b + 6, b + 7, b + 8]) ib) {ss : Nat → Int32} (h6 : E (b + 6) = aI G 801 ss) {se : Nat → Int32} (h7 : E (b + 7) = aI G 801 se) {os : Nat → Int32} (h8 : E (b + 8) = aI G 801 os) {c : Nat} (hc : (ib 10).toInt = (c : Int)) (hS : STR c ss se os) {T : TST} (hcT : c = T.1) (hZ : ZR (c : Int) ss os T) (hok : okT 69300000 T) (d : Int32) (f : Int32) {d1 f0 : Nat} (hd : d.toInt = (d1 : Int)) (hd4 : d1 ≤ 48100) (hf : f.toInt = (f0 : Int)) (hf0 : f0 ≤ c) (hlow : ∀ i, 1 ≤ i → i ≤ f0 → T.2.1 i ≤ 1440 * (d1 : Int) - 720) : CtI l G yX6_firstOfDay cX6_firstOfDay 7 .int 1 21 (n) ad E [.ref (ad b), .int d, .int f] (fun r E' => (r.toInt = dyT T d1) ∧ E = E') := by
  refine CtI.of (by decide) (Nat.le_of_ble_eq_true rfl) (fun X A C => ?_)
  refine v_sub (lv' := [(0, .ref (ad b)), (1, .int d), (2, .int f)]) [0, 1, 2] rfl ?_
  have hc8 := hS.1
  refine v_iload_n C 1 dX6_firstOfDay_0 rfl rfl ?_
  refine v_sipush (v := 1440) C dX6_firstOfDay_1 (by decide) ?_
  refine v_imul C dX6_firstOfDay_4 ?_
  refine v_top (fun x1 ex1 => ?_)
  have hx1 : x1.toInt = ((d1 : Int) * 1440) := by rw [ex1]; exact ti_mul hd (show (1440 : Int32).toInt = 1440 by decide) (by omega) (by omega)
  refine v_istore_n (lv' := [(0, .ref (ad b)), (1, .int d), (2, .int f), (3, .int x1)]) C [1, 2, 3, 0] dX6_firstOfDay_5 rfl (by decide) rfl ?_
  refine v_iload_n C 3 dX6_firstOfDay_6 rfl rfl ?_
  refine v_sipush (v := 1440) C dX6_firstOfDay_7 (by decide) ?_
  refine v_iadd C dX6_firstOfDay_10 ?_
  refine v_top (fun x2 ex2 => ?_)
  have hx2 : x2.toInt = (((d1 : Int) * 1440) + 1440) := by rw [ex2]; exact ti_add hx1 (show (1440 : Int32).toInt = 1440 by decide) (by omega) (by omega)
  refine v_istore (lv' := [(0, .ref (ad b)), (1, .int d), (2, .int f), (3, .int x1), (4, .int x2)]) C [1, 2, 3, 4, 0] dX6_firstOfDay_11 (by decide) rfl ?_
  refine v_iload_n C 2 dX6_firstOfDay_13 rfl rfl ?_
  refine v_istore (lv' := [(0, .ref (ad b)), (1, .int d), (2, .int f), (3, .int x1), (4, .int x2), (5, .int f)]) C [1, 2, 3, 4, 5, 0] dX6_firstOfDay_14 (by decide) rfl ?_
  have LP3 : ∀ (t : Nat) (j1 : Nat) (y4 : Int32) (E5 : Nat → va_E), (y4.toInt = (j1 : Int)) → (∀ j, E5 j = E j) → (j1 ≤ c + 1) → (ffT T (1440 * (d1 : Int)) (1440 * (d1 : Int) + 1439) j1 = -1) → (c : Int) + 1 - (j1 : Int) < (t : Int) → V X G A 7 (QI X G A (n) ad (fun r E' => (r.toInt = dyT T d1) ∧ E = E')) (n) ad 0 0 E5 16 [(0, .ref (ad b)), (3, .int x1), (4, .int x2), (5, .int y4)] [] := by
    intro t8
    induction t8 with
    | zero => intro j1 y4 E5 hy4 hfr6 hq7 hfj hm10; exfalso; omega
    | succ t8 ih9 =>
      intro j1 y4 E5 hy4 hfr6 hq7 hfj hm10
      have hE5_b := (hfr6 b ).trans hB
      have hE5_b6 := (hfr6 (b + 6) ).trans h6
      have hE5_b7 := (hfr6 (b + 7) ).trans h7
      have hE5_b8 := (hfr6 (b + 8) ).trans h8
      refine v_iload C 3 dX6_firstOfDay_16 rfl ?_
      refine v_aload_n C 0 dX6_firstOfDay_18 rfl rfl ?_
      refine v_geti (v := ib 10) C b dX6_firstOfDay_19 fX6_47 (by omega) hE5_b rfl rfl ?_
      refine b_icmp_gt C 98 dX6_firstOfDay_22 (by decide) hy4 hc (fun c11 => ?_) (fun c11 => ?_)
      · refine v_iconst (v := (-1)) C dX6_firstOfDay_98 (by decide) ?_
        have hEE : E5 = E := funext (fun j => hfr6 j)
        exact v_ret C dX6_firstOfDay_99 rfl rfl ⟨(show (-1 : Int32).toInt = -1 by decide).trans (by unfold dyT; rw [show T.1 + 1 = j1 by omega]; exact hfj.symm), hEE.symm⟩
      · have hss := (show (ss j1).toInt = T.2.1 j1 from (hZ.2 j1 (by omega)).1)
        have hos := (show (os j1).toInt = T.2.2 j1 from (hZ.2 j1 (by omega)).2)
        have hse := STR_en hcT hZ hS (k := j1) (by omega)
        have hob := hok.2.2.2 j1 (by omega)
        have hsb := hok.2.1 j1 (by omega)
        have hen := en_60 (T := T) (k := j1)
        have hen0 := en_0 hok (k := j1) (by omega)
        refine v_aload_n C 0 dX6_firstOfDay_25 rfl rfl ?_
        refine v_getr C b dX6_firstOfDay_26 fX6_27 (by omega) hE5_b rfl rfl ?_
        refine v_iload C 3 dX6_firstOfDay_29 rfl ?_
        refine v_ald (v := ss j1) C (b + 6) dX6_firstOfDay_31 (by omega) hE5_b6 (ti_in hy4 (by omega) (by omega)) (by rw [ti_cl hy4, show Int.toNat (j1 : Int) = j1 by omega]) ?_
        refine v_iload C 2 dX6_firstOfDay_32 rfl ?_
        refine v_sipush (v := 720) C dX6_firstOfDay_34 (by decide) ?_
        refine v_iadd C dX6_firstOfDay_37 ?_
        refine v_top (fun x12 ex12 => ?_)
        have hx12 : x12.toInt = ((((d1 : Int) * 1440) + 1440) + 720) := by rw [ex12]; exact ti_add hx2 (show (720 : Int32).toInt = 720 by decide) (by omega) (by omega)
        refine b_icmp_ge C 98 dX6_firstOfDay_38 (by decide) hss hx12 (fun c13 => ?_) (fun c13 => ?_)
        · refine v_iconst (v := (-1)) C dX6_firstOfDay_98 (by decide) ?_
          have hEE : E5 = E := funext (fun j => hfr6 j)
          exact v_ret C dX6_firstOfDay_99 rfl rfl ⟨(show (-1 : Int32).toInt = -1 by decide).trans (by unfold dyT; rw [ff_end (j := j1) hok (Nat.pos_of_ne_zero (fun e => by subst e; have := hok.1; omega)) (by omega) (by omega)]; exact hfj.symm), hEE.symm⟩
        · refine v_aload_n C 0 dX6_firstOfDay_41 rfl rfl ?_
          refine v_getr C b dX6_firstOfDay_42 fX6_27 (by omega) hE5_b rfl rfl ?_
          refine v_iload C 3 dX6_firstOfDay_45 rfl ?_
          refine v_ald (v := ss j1) C (b + 6) dX6_firstOfDay_47 (by omega) hE5_b6 (ti_in hy4 (by omega) (by omega)) (by rw [ti_cl hy4, show Int.toNat (j1 : Int) = j1 by omega]) ?_
          refine v_iload_n C 1 dX6_firstOfDay_48 rfl rfl ?_
          refine v_aload_n C 0 dX6_firstOfDay_49 rfl rfl ?_
          refine v_getr C b dX6_firstOfDay_50 fX6_33 (by omega) hE5_b rfl rfl ?_
          refine v_iload C 3 dX6_firstOfDay_53 rfl ?_
          refine v_ald (v := os j1) C (b + 8) dX6_firstOfDay_55 (by omega) hE5_b8 (ti_in hy4 (by omega) (by omega)) (by rw [ti_cl hy4, show Int.toNat (j1 : Int) = j1 by omega]) ?_
          refine v_isub C dX6_firstOfDay_56 ?_
          refine v_top (fun x14 ex14 => ?_)
          have hx14 : x14.toInt = (((d1 : Int) * 1440) - (T.2.2 j1)) := by rw [ex14]; exact ti_sub hx1 hos (by omega) (by omega)
          refine v_mmax C dX6_firstOfDay_57 lX6_73 mJ9_max_7cf53.2.2.1 mJ9_max_7cf53.2.1 mJ9_max_7cf53.1 ⟨by decide, Nat.le_of_ble_eq_true rfl⟩ ⟨Nat.zero_le _, Nat.zero_le _⟩ ?_
          refine v_top (fun x15 ex15 => ?_)
          have hx15 : (T.2.1 j1) ≤ x15.toInt ∧ (((d1 : Int) * 1440) - (T.2.2 j1)) ≤ x15.toInt ∧ (x15.toInt = (T.2.1 j1) ∨ x15.toInt = (((d1 : Int) * 1440) - (T.2.2 j1))) := by rw [ex15]; exact mmax_b hss hx14
          have hmx : x15.toInt = mxI (1440 * (d1 : Int) - T.2.2 j1) (T.2.1 j1) := by unfold mxI; split <;> omega
          have hmxb : 0 ≤ mxI (1440 * (d1 : Int) - T.2.2 j1) (T.2.1 j1) ∧ mxI (1440 * (d1 : Int) - T.2.2 j1) (T.2.1 j1) ≤ 70000000 := by omega
          refine v_istore (lv' := [(0, .ref (ad b)), (3, .int x1), (4, .int x2), (5, .int y4), (6, .int x15)]) C [1, 2, 3, 4, 0] dX6_firstOfDay_60 (by decide) rfl ?_
          refine v_iload C 4 dX6_firstOfDay_62 rfl ?_
          refine v_aload_n C 0 dX6_firstOfDay_64 rfl rfl ?_
          refine v_getr C b dX6_firstOfDay_65 fX6_30 (by omega) hE5_b rfl rfl ?_
          refine v_iload C 3 dX6_firstOfDay_68 rfl ?_
          refine v_ald (v := se j1) C (b + 7) dX6_firstOfDay_70 (by omega) hE5_b7 (ti_in hy4 (by omega) (by omega)) (by rw [ti_cl hy4, show Int.toNat (j1 : Int) = j1 by omega]) ?_
          refine b_icmp_ge C 92 dX6_firstOfDay_71 (by decide) hmx hse (fun c16 => ?_) (fun c16 => ?_)
          · obtain ⟨x17, ex17⟩ : ∃ y : Int32, y = y4 + 1 := ⟨_, rfl⟩
            have hx17 : x17.toInt = ((j1 : Int) + 1) := by rw [ex17]; exact ti_add hy4 (show (1 : Int32).toInt = 1 by decide) (by omega) (by omega)
            refine v_iinc (v := x17) (lv' := [(0, .ref (ad b)), (3, .int x1), (4, .int x2), (5, .int x17), (6, .int x15)]) C 3 [1, 2, 3, 0, 4] dX6_firstOfDay_92 rfl (ex17.symm) (by decide) rfl ?_
            refine v_goto C 16 dX6_firstOfDay_95 (by decide) ?_
            refine v_sub (lv' := [(0, .ref (ad b)), (3, .int x1), (4, .int x2), (5, .int x17)]) [0, 1, 2, 3] rfl ?_
            exact ih9 (j1 + 1) x17 E5 (show Int32.toInt x17 = ((j1 + 1 : Nat) : Int) by have := hx17; omega) (fun j => (hfr6 j )) (by omega) (ff_miss hfj rfl (by omega)) (by omega)
          · refine v_iload C 4 dX6_firstOfDay_74 rfl ?_
            refine v_aload_n C 0 dX6_firstOfDay_76 rfl rfl ?_
            refine v_getr C b dX6_firstOfDay_77 fX6_33 (by omega) hE5_b rfl rfl ?_
            refine v_iload C 3 dX6_firstOfDay_80 rfl ?_
            refine v_ald (v := os j1) C (b + 8) dX6_firstOfDay_82 (by omega) hE5_b8 (ti_in hy4 (by omega) (by omega)) (by rw [ti_cl hy4, show Int.toNat (j1 : Int) = j1 by omega]) ?_
            refine v_iadd C dX6_firstOfDay_83 ?_
            refine v_top (fun x18 ex18 => ?_)
            have hx18 : x18.toInt = ((mxI (1440 * (d1 : Int) - T.2.2 j1) (T.2.1 j1)) + (T.2.2 j1)) := by rw [ex18]; exact ti_add hmx hos (by omega) (by omega)
            refine v_iload C 2 dX6_firstOfDay_84 rfl ?_
            refine b_icmp_ge C 92 dX6_firstOfDay_86 (by decide) hx18 hx2 (fun c19 => ?_) (fun c19 => ?_)
            · obtain ⟨x20, ex20⟩ : ∃ y : Int32, y = y4 + 1 := ⟨_, rfl⟩
              have hx20 : x20.toInt = ((j1 : Int) + 1) := by rw [ex20]; exact ti_add hy4 (show (1 : Int32).toInt = 1 by decide) (by omega) (by omega)
              refine v_iinc (v := x20) (lv' := [(0, .ref (ad b)), (3, .int x1), (4, .int x2), (5, .int x20), (6, .int x15)]) C 3 [1, 2, 3, 0, 4] dX6_firstOfDay_92 rfl (ex20.symm) (by decide) rfl ?_
              refine v_goto C 16 dX6_firstOfDay_95 (by decide) ?_
              refine v_sub (lv' := [(0, .ref (ad b)), (3, .int x1), (4, .int x2), (5, .int x20)]) [0, 1, 2, 3] rfl ?_
              exact ih9 (j1 + 1) x20 E5 (show Int32.toInt x20 = ((j1 + 1 : Nat) : Int) by have := hx20; omega) (fun j => (hfr6 j )) (by omega) (ff_miss hfj rfl (by omega)) (by omega)
            · refine v_iload C 4 dX6_firstOfDay_89 rfl ?_
              have hEE : E5 = E := funext (fun j => hfr6 j)
              exact v_ret C dX6_firstOfDay_91 rfl rfl ⟨hmx.trans (ff_hit hfj rfl (by omega) (by omega) (by omega) (by omega)).symm, hEE.symm⟩
  refine v_sub (lv' := [(0, .ref (ad b)), (3, .int x1), (4, .int x2), (5, .int f)]) [0, 3, 4, 5] rfl ?_
  exact LP3 100000 f0 f E (show Int32.toInt f = ((f0 : Nat) : Int) by have := hf; omega) (fun j => rfl) (by omega) (ff_low hok (by omega) (fun i g1 g2 => by have := hlow i g1 g2; omega)) (by omega)

theorem QM_mark {mk : Nat → Int64} {a b x0 : Int} {p0 : Nat} (hp : x0 - a = (p0 : Int)) (hb : x0 ≤ b) : ∀ x, QMk (vp_updL mk (p0 / 64) (mk (p0 / 64) ||| pw (p0 % 64))) a x ↔ QMk mk a x ∨ (x = x0 ∧ a ≤ x ∧ x ≤ b) := by
  intro x
  unfold QMk
  rw [bt_mark]
  constructor
  · rintro ⟨h1, h2 | h2⟩
    · exact Or.inl ⟨h1, h2⟩
    · exact Or.inr ⟨by omega, h1, by omega⟩
  · rintro (⟨h1, h2⟩ | ⟨h1, h2, h3⟩)
    · exact ⟨h1, Or.inl h2⟩
    · exact ⟨h2, Or.inr (by omega)⟩
theorem cB_one {mk mk' : Nat → Int64} {a : Nat} (h : ∀ p, btB mk' p = true ↔ btB mk p = true ∨ p = a) (n : Nat) : cntB mk' n ≤ cntB mk n + 1 := by
  have := cB_mark h n
  split at this <;> omega

set_option maxRecDepth 20000 in
theorem g_mark (l : Launch) (G : Gl) (n : Nat) (ad : Nat → Nat) (E : Nat → va_E) (hn : 98 ≤ n) {iq : Nat → Int32} (h45 : E 45 = ob 4 (rfs ad [46, 47]) iq) {mk : Nat → Int64} (h46 : E 46 = aJ G 31251 mk) {la lb : Int} (hA3 : (iq 3).toInt = la) (hB4 : (iq 4).toInt = lb) (hAB : okOD la lb) {mm : Int} (m : Int32) (hmm : m.toInt = mm) (hmb : -1 ≤ mm ∧ mm ≤ 70000000) : CtV l G yX4_mark cX4_mark 3 0 0 (n) ad E [.ref (ad 45), .int m] (fun E' => ∃ mk2 : Nat → Int64, E' 46 = aJ G 31251 mk2 ∧ (∀ x, QMk mk2 la x ↔ QMk mk la x ∨ (x = mm ∧ la ≤ x ∧ x ≤ lb)) ∧ (∀ n, cntB mk2 n ≤ cntB mk n + 1) ∧ ∀ j, j ≠ 46 → E' j = E j) := by
  refine CtV.of (by decide) (Nat.le_of_ble_eq_true rfl) (fun X A C => ?_)
  refine v_sub (lv' := [(0, .ref (ad 45)), (1, .int m)]) [0, 1] rfl ?_
  unfold okOD at hAB
  refine v_iload_n C 1 dX4_mark_0 rfl rfl ?_
  refine v_aload_n C 0 dX4_mark_1 rfl rfl ?_
  refine v_geti (v := iq 3) C 45 dX4_mark_2 fX4_23 (by omega) h45 rfl rfl ?_
  refine v_isub C dX4_mark_5 ?_
  refine v_top (fun x1 ex1 => ?_)
  have hx1 : x1.toInt = (mm - la) := by rw [ex1]; exact ti_sub hmm hA3 (by omega) (by omega)
  refine v_istore_n (lv' := [(0, .ref (ad 45)), (1, .int m), (2, .int x1)]) C [1, 2, 0] dX4_mark_6 rfl (by decide) rfl ?_
  refine v_iload_n C 2 dX4_mark_7 rfl rfl ?_
  refine b_if_lt C 49 dX4_mark_8 (by decide) hx1 (fun c2 => ?_) (fun c2 => ?_)
  · exact v_vret C dX4_mark_49 rfl ⟨mk, h46, (fun x => ⟨Or.inl, fun q => q.elim id (fun z => by exfalso; omega)⟩), fun n => Nat.le_succ _, fun _ _ => rfl⟩
  · obtain ⟨p0, hp0⟩ : ∃ p : Nat, mm - la = (p : Int) := ⟨(mm - la).toNat, by omega⟩
    have hp1 : Int32.toInt x1 = (p0 : Int) := hx1.trans hp0
    refine v_iload_n C 1 dX4_mark_11 rfl rfl ?_
    refine v_aload_n C 0 dX4_mark_12 rfl rfl ?_
    refine v_geti (v := iq 4) C 45 dX4_mark_13 fX4_27 (by omega) h45 rfl rfl ?_
    refine b_icmp_gt C 49 dX4_mark_16 (by decide) hmm hB4 (fun c3 => ?_) (fun c3 => ?_)
    · exact v_vret C dX4_mark_49 rfl ⟨mk, h46, (fun x => ⟨Or.inl, fun q => q.elim id (fun z => by exfalso; omega)⟩), fun n => Nat.le_succ _, fun _ _ => rfl⟩
    · refine v_iload_n C 2 dX4_mark_19 rfl rfl ?_
      refine v_bipush (v := 64) C dX4_mark_20 (by decide) ?_
      refine v_idiv C dX4_mark_22 (by decide) ?_
      refine v_top (fun x4 ex4 => ?_)
      have hx4 : x4.toInt = ((p0 : Int) / 64) := by rw [ex4]; exact ti_div hp1 (show (64 : Int32).toInt = 64 by decide) (by omega) (by omega)
      refine v_aload_n C 0 dX4_mark_23 rfl rfl ?_
      refine v_getr C 45 dX4_mark_24 fX4_9 (by omega) h45 rfl rfl ?_
      refine v_alenJ (v := 31251) C 46 dX4_mark_27 (by omega) h46 (by decide) ?_
      refine b_icmp_ge C 49 dX4_mark_28 (by decide) hx4 (show (31251 : Int32).toInt = 31251 by decide) (fun c5 => by exfalso; omega) (fun c5 => ?_)
      refine v_aload_n C 0 dX4_mark_31 rfl rfl ?_
      refine v_getr C 45 dX4_mark_32 fX4_9 (by omega) h45 rfl rfl ?_
      refine v_iload_n C 2 dX4_mark_35 rfl rfl ?_
      refine v_bipush (v := 64) C dX4_mark_36 (by decide) ?_
      refine v_idiv C dX4_mark_38 (by decide) ?_
      refine v_top (fun x6 ex6 => ?_)
      have hx6 : x6.toInt = ((p0 : Int) / 64) := by rw [ex6]; exact ti_div hp1 (show (64 : Int32).toInt = 64 by decide) (by omega) (by omega)
      refine v_dup2_11 C dX4_mark_39 rfl rfl ?_
      refine v_jald (v := mk (p0 / 64)) C 46 dX4_mark_40 (by omega) h46 (ti_in hx6 (by omega) (by omega)) (by rw [ti_cl hx6, show Int.toNat ((p0 : Int) / 64) = p0 / 64 by omega]) ?_
      refine v_lconst (v := 1) C dX4_mark_41 (by decide) ?_
      refine v_iload_n C 2 dX4_mark_42 rfl rfl ?_
      refine v_bipush (v := 64) C dX4_mark_43 (by decide) ?_
      refine v_irem C dX4_mark_45 (by decide) ?_
      refine v_top (fun x7 ex7 => ?_)
      have hx7 : x7.toInt = ((p0 : Int) % 64) := by rw [ex7]; exact ti_rem hp1 (show (64 : Int32).toInt = 64 by decide) (by omega) (by omega)
      refine v_lshl C dX4_mark_46 rfl ?_
      refine v_eql (y := pw (p0 % 64)) (by rw [nI_of_toInt (e := p0 % 64) (show Int32.toInt x7 = ((p0 % 64 : Nat) : Int) by have := hx7; omega) (by omega)]; rfl) ?_
      refine v_lor C dX4_mark_47 ?_
      refine v_jast C 46 dX4_mark_48 (by omega) h46 (ti_in hx6 (by omega) (by omega)) (fun E8 hE8_46 oE8 => ?_)
      rw [ti_cl hx6, show Int.toNat ((p0 : Int) / 64) = p0 / 64 by omega] at hE8_46
      have hE8_45 := (oE8 45 (by decide)).trans h45
      exact v_vret C dX4_mark_49 rfl ⟨_, hE8_46, QM_mark hp0 (by omega), cB_one bt_mark, fun j hj => (oE8 j hj)⟩

set_option maxRecDepth 20000 in
theorem g_markChanges (l : Launch) (G : Gl) (n : Nat) (ad : Nat → Nat) (E : Nat → va_E) (hn : 98 ≤ n) {iq : Nat → Int32} (h45 : E 45 = ob 4 (rfs ad [46, 47]) iq) {mk : Nat → Int64} (h46 : E 46 = aJ G 31251 mk) {la lb : Int} (hA3 : (iq 3).toInt = la) (hB4 : (iq 4).toInt = lb) (hAB : okOD la lb) (b : Nat) (hb : b + 9 ≤ n) {ib : Nat → Int32} (hB : E b = ob 6 (rfs ad [b + 1, b + 2, b + 3, b + 4, b + 5, b + 6, b + 7, b + 8]) ib) {ss : Nat → Int32} (h6 : E (b + 6) = aI G 801 ss) {se : Nat → Int32} (h7 : E (b + 7) = aI G 801 se) {os : Nat → Int32} (h8 : E (b + 8) = aI G 801 os) {c : Nat} (hc : (ib 10).toInt = (c : Int)) (hS : STR c ss se os) {T : TST} (hcT : c = T.1) (hZ : ZR (c : Int) ss os T) (hok : okT 69300000 T) (hb98 : 98 ≤ b) : CtV l G yX4_markChanges cX4_markChanges 3 1 23 (n) ad E [.ref (ad 45), .ref (ad b)] (fun E' => ∃ (mk2 : Nat → Int64) (lo hi : Nat), E' 46 = aJ G 31251 mk2 ∧ 1 ≤ lo ∧ hi ≤ T.1 + 1 ∧ (∀ i, 1 ≤ i → i < lo → T.2.1 i ≤ la - 1) ∧ (∀ i, hi ≤ i → i ≤ T.1 → lb < T.2.1 i) ∧ (∀ x, QMk mk2 la x ↔ QMk mk la x ∨ chI T la lb lo hi x) ∧ (∀ n, cntB mk2 n ≤ cntB mk n + 2400) ∧ ∀ j, j ≠ 46 → E' j = E j) := by
  refine CtV.of (by decide) (Nat.le_of_ble_eq_true rfl) (fun X A C => ?_)
  refine v_sub (lv' := [(0, .ref (ad 45)), (1, .ref (ad b))]) [0, 1] rfl ?_
  have hc8 := hS.1
  have hab9 := hAB
  unfold okOD at hab9
  refine v_aload_n C 1 dX4_markChanges_0 rfl rfl ?_
  refine v_aload_n C 0 dX4_markChanges_1 rfl rfl ?_
  refine v_geti (v := iq 3) C 45 dX4_markChanges_2 fX4_23 (by omega) h45 rfl rfl ?_
  refine v_iconst (v := 1) C dX4_markChanges_5 (by decide) ?_
  refine v_isub C dX4_markChanges_6 ?_
  refine v_top (fun x1 ex1 => ?_)
  have hx1 : x1.toInt = (la - 1) := by rw [ex1]; exact ti_sub hA3 (show (1 : Int32).toInt = 1 by decide) (by omega) (by omega)
  refine v_cVp C dX4_markChanges_7 lX4_60 mX6_stretchAt b (by omega) hB (by decide) rfl (z_stretch l G n ad _ b hb hB h6 hc hS.1 (fun i j _ h1 h2 => STR_le hS h1 h2) x1) ⟨by decide, by decide⟩ rfl (Nat.le_of_ble_eq_true rfl) ⟨Nat.zero_le _, Nat.zero_le _⟩ (fun r2 hp3 => ?_)
  obtain ⟨j0, hj0, hST⟩ := hp3
  rw [hx1] at hST
  have hj0c := hST.1
  refine v_iconst (v := 1) C dX4_markChanges_10 (by decide) ?_
  refine v_iadd C dX4_markChanges_11 ?_
  refine v_top (fun x4 ex4 => ?_)
  have hx4 : x4.toInt = ((j0 : Int) + 1) := by rw [ex4]; exact ti_add hj0 (show (1 : Int32).toInt = 1 by decide) (by omega) (by omega)
  have hTJ := isST_T hcT hZ hST
  refine v_istore_n (lv' := [(0, .ref (ad 45)), (1, .ref (ad b)), (2, .int x4)]) C [1, 2, 0] dX4_markChanges_12 rfl (by decide) rfl ?_
  have LP5 : ∀ (t : Nat) (j1 : Nat) (y6 : Int32) (mk1 : Nat → Int64) (E7 : Nat → va_E), (y6.toInt = (j1 : Int)) → (E7 46 = aJ G 31251 mk1 ∧ ∀ j, j ≠ 46 → E7 j = E j) → (j0 + 1 ≤ j1) → (j1 ≤ c + 1) → (∀ x, QMk mk1 la x ↔ QMk mk la x ∨ chI T la lb (j0 + 1) j1 x) → (∀ n, cntB mk1 n ≤ cntB mk n + 3 * (j1 - (j0 + 1))) → (c : Int) + 1 - (j1 : Int) < (t : Int) → V X G A 3 (QV X G A (n) ad (fun E' => ∃ (mk2 : Nat → Int64) (lo hi : Nat), E' 46 = aJ G 31251 mk2 ∧ 1 ≤ lo ∧ hi ≤ T.1 + 1 ∧ (∀ i, 1 ≤ i → i < lo → T.2.1 i ≤ la - 1) ∧ (∀ i, hi ≤ i → i ≤ T.1 → lb < T.2.1 i) ∧ (∀ x, QMk mk2 la x ↔ QMk mk la x ∨ chI T la lb lo hi x) ∧ (∀ n, cntB mk2 n ≤ cntB mk n + 2400) ∧ ∀ j, j ≠ 46 → E' j = E j)) (n) ad 0 0 E7 13 [(0, .ref (ad 45)), (1, .ref (ad b)), (2, .int y6)] [] := by
    intro t11
    induction t11 with
    | zero => intro j1 y6 mk1 E7 hy6 hI8 hq9 hq10 hch hcn hm13; exfalso; omega
    | succ t11 ih12 =>
      intro j1 y6 mk1 E7 hy6 hI8 hq9 hq10 hch hcn hm13
      obtain ⟨i46, iO⟩ := id hI8
      have mE7_45 := (iO 45 (by omega)).trans h45
      have mE7_b := (iO b (by omega)).trans hB
      have mE7_b6 := (iO (b + 6) (by omega)).trans h6
      have mE7_b7 := (iO (b + 7) (by omega)).trans h7
      have mE7_b8 := (iO (b + 8) (by omega)).trans h8
      refine v_iload_n C 2 dX4_markChanges_13 rfl rfl ?_
      refine v_aload_n C 1 dX4_markChanges_14 rfl rfl ?_
      refine v_geti (v := ib 10) C b dX4_markChanges_15 fX4_66 (by omega) mE7_b rfl rfl ?_
      refine b_icmp_gt C 74 dX4_markChanges_18 (by decide) hy6 hc (fun c14 => ?_) (fun c14 => ?_)
      · exact v_vret C dX4_markChanges_74 rfl ⟨mk1, j0 + 1, j1, i46, by omega, by omega, (fun i g1 g2 => hTJ.2.1 i g1 (by omega)), (fun i g1 g2 => by exfalso; omega), hch, (fun n => by have := hcn n; omega), iO⟩
      · have hss := (show (ss j1).toInt = T.2.1 j1 from (hZ.2 j1 (by omega)).1)
        have hos := (show (os j1).toInt = T.2.2 j1 from (hZ.2 j1 (by omega)).2)
        have hse := STR_en hcT hZ hS (k := j1) (by omega)
        have hob := hok.2.2.2 j1 (by omega)
        have hsb := hok.2.1 j1 (by omega)
        have hen := en_60 (T := T) (k := j1)
        have hen0 := en_0 hok (k := j1) (by omega)
        refine v_aload_n C 1 dX4_markChanges_21 rfl rfl ?_
        refine v_getr C b dX4_markChanges_22 fX4_69 (by omega) mE7_b rfl rfl ?_
        refine v_iload_n C 2 dX4_markChanges_25 rfl rfl ?_
        refine v_ald (v := ss j1) C (b + 6) dX4_markChanges_26 (by omega) mE7_b6 (ti_in hy6 (by omega) (by omega)) (by rw [ti_cl hy6, show Int.toNat (j1 : Int) = j1 by omega]) ?_
        refine v_aload_n C 0 dX4_markChanges_27 rfl rfl ?_
        refine v_geti (v := iq 4) C 45 dX4_markChanges_28 fX4_27 (by omega) mE7_45 rfl rfl ?_
        refine b_icmp_gt C 74 dX4_markChanges_31 (by decide) hss hB4 (fun c15 => ?_) (fun c15 => ?_)
        · exact v_vret C dX4_markChanges_74 rfl ⟨mk1, j0 + 1, j1, i46, by omega, by omega, (fun i g1 g2 => hTJ.2.1 i g1 (by omega)), (fun i g1 g2 => by have := okT_le hok (i := j1) (j := i) (by omega) g1 g2; omega), hch, (fun n => by have := hcn n; omega), iO⟩
        · refine v_aload_n C 0 dX4_markChanges_34 rfl rfl ?_
          refine v_aload_n C 1 dX4_markChanges_35 rfl rfl ?_
          refine v_getr C b dX4_markChanges_36 fX4_69 (by omega) mE7_b rfl rfl ?_
          refine v_iload_n C 2 dX4_markChanges_39 rfl rfl ?_
          refine v_ald (v := ss j1) C (b + 6) dX4_markChanges_40 (by omega) mE7_b6 (ti_in hy6 (by omega) (by omega)) (by rw [ti_cl hy6, show Int.toNat (j1 : Int) = j1 by omega]) ?_
          refine v_iconst (v := 1) C dX4_markChanges_41 (by decide) ?_
          refine v_isub C dX4_markChanges_42 ?_
          refine v_top (fun x16 ex16 => ?_)
          have hx16 : x16.toInt = ((T.2.1 j1) - 1) := by rw [ex16]; exact ti_sub hss (show (1 : Int32).toInt = 1 by decide) (by omega) (by omega)
          refine v_cVv C dX4_markChanges_43 lX4_36 mX4_mark 45 (by omega) mE7_45 (by decide) rfl (g_mark l G n ad _ hn mE7_45 i46 hA3 hB4 hAB x16 hx16 (by omega)) ⟨by decide, by decide⟩ rfl (Nat.le_of_ble_eq_true rfl) ⟨Nat.zero_le _, Nat.zero_le _⟩ (fun E17 hq18 => ?_)
          obtain ⟨mk19, k119, k219, k319, k419⟩ := hq18
          have hE17_45 := (k419 45 (by omega)).trans mE7_45
          have hE17_b := (k419 b (by omega)).trans mE7_b
          have hE17_b6 := (k419 (b + 6) (by omega)).trans mE7_b6
          have hE17_b7 := (k419 (b + 7) (by omega)).trans mE7_b7
          have hE17_b8 := (k419 (b + 8) (by omega)).trans mE7_b8
          refine v_aload_n C 0 dX4_markChanges_46 rfl rfl ?_
          refine v_aload_n C 1 dX4_markChanges_47 rfl rfl ?_
          refine v_getr C b dX4_markChanges_48 fX4_69 (by omega) hE17_b rfl rfl ?_
          refine v_iload_n C 2 dX4_markChanges_51 rfl rfl ?_
          refine v_ald (v := ss j1) C (b + 6) dX4_markChanges_52 (by omega) hE17_b6 (ti_in hy6 (by omega) (by omega)) (by rw [ti_cl hy6, show Int.toNat (j1 : Int) = j1 by omega]) ?_
          refine v_cVv C dX4_markChanges_53 lX4_36 mX4_mark 45 (by omega) hE17_45 (by decide) rfl (g_mark l G n ad _ hn hE17_45 k119 hA3 hB4 hAB (ss j1) hss (by omega)) ⟨by decide, by decide⟩ rfl (Nat.le_of_ble_eq_true rfl) ⟨Nat.zero_le _, Nat.zero_le _⟩ (fun E20 hq21 => ?_)
          obtain ⟨mk22, k122, k222, k322, k422⟩ := hq21
          have hE20_45 := (k422 45 (by omega)).trans hE17_45
          have hE20_b := (k422 b (by omega)).trans hE17_b
          have hE20_b6 := (k422 (b + 6) (by omega)).trans hE17_b6
          have hE20_b7 := (k422 (b + 7) (by omega)).trans hE17_b7
          have hE20_b8 := (k422 (b + 8) (by omega)).trans hE17_b8
          refine v_aload_n C 0 dX4_markChanges_56 rfl rfl ?_
          refine v_aload_n C 1 dX4_markChanges_57 rfl rfl ?_
          refine v_getr C b dX4_markChanges_58 fX4_69 (by omega) hE20_b rfl rfl ?_
          refine v_iload_n C 2 dX4_markChanges_61 rfl rfl ?_
          refine v_ald (v := ss j1) C (b + 6) dX4_markChanges_62 (by omega) hE20_b6 (ti_in hy6 (by omega) (by omega)) (by rw [ti_cl hy6, show Int.toNat (j1 : Int) = j1 by omega]) ?_
          refine v_iconst (v := 1) C dX4_markChanges_63 (by decide) ?_
          refine v_iadd C dX4_markChanges_64 ?_
          refine v_top (fun x23 ex23 => ?_)
          have hx23 : x23.toInt = ((T.2.1 j1) + 1) := by rw [ex23]; exact ti_add hss (show (1 : Int32).toInt = 1 by decide) (by omega) (by omega)
          refine v_cVv C dX4_markChanges_65 lX4_36 mX4_mark 45 (by omega) hE20_45 (by decide) rfl (g_mark l G n ad _ hn hE20_45 k122 hA3 hB4 hAB x23 hx23 (by omega)) ⟨by decide, by decide⟩ rfl (Nat.le_of_ble_eq_true rfl) ⟨Nat.zero_le _, Nat.zero_le _⟩ (fun E24 hq25 => ?_)
          obtain ⟨mk26, k126, k226, k326, k426⟩ := hq25
          have hE24_45 := (k426 45 (by omega)).trans hE20_45
          have hE24_b := (k426 b (by omega)).trans hE20_b
          have hE24_b6 := (k426 (b + 6) (by omega)).trans hE20_b6
          have hE24_b7 := (k426 (b + 7) (by omega)).trans hE20_b7
          have hE24_b8 := (k426 (b + 8) (by omega)).trans hE20_b8
          obtain ⟨x27, ex27⟩ : ∃ y : Int32, y = y6 + 1 := ⟨_, rfl⟩
          have hx27 : x27.toInt = ((j1 : Int) + 1) := by rw [ex27]; exact ti_add hy6 (show (1 : Int32).toInt = 1 by decide) (by omega) (by omega)
          refine v_iinc (v := x27) (lv' := [(0, .ref (ad 45)), (1, .ref (ad b)), (2, .int x27)]) C 2 [1, 2, 0] dX4_markChanges_68 rfl (ex27.symm) (by decide) rfl ?_
          refine v_goto C 13 dX4_markChanges_71 (by decide) ?_
          exact ih12 (j1 + 1) x27 mk26 E24 (show Int32.toInt x27 = ((j1 + 1 : Nat) : Int) by have := hx27; omega) (⟨k126, fun j hj => ((k426 j hj).trans ((k422 j hj).trans ((k419 j hj).trans (iO j hj))))⟩) (by omega) (by omega) (ch_step (by omega) hch k219 k222 k226) (fun n => by have := hcn n; have := k319 n; have := k322 n; have := k326 n; omega) (by omega)
  exact LP5 100000 (j0 + 1) x4 mk E (show Int32.toInt x4 = ((j0 + 1 : Nat) : Int) by have := hx4; omega) (⟨h46, fun _ _ => rfl⟩) (by omega) (by omega) (fun x => ⟨Or.inl, fun q => q.elim id (fun z => by obtain ⟨-, i, i1, i2, -⟩ := z; omega)⟩) (fun n => Nat.le_add_right _ _) (by omega)

set_option maxRecDepth 20000 in
theorem g_markDays (l : Launch) (G : Gl) (n : Nat) (ad : Nat → Nat) (E : Nat → va_E) (hn : 98 ≤ n) {iq : Nat → Int32} (h45 : E 45 = ob 4 (rfs ad [46, 47]) iq) {mk : Nat → Int64} (h46 : E 46 = aJ G 31251 mk) {la lb : Int} (hA3 : (iq 3).toInt = la) (hB4 : (iq 4).toInt = lb) (hAB : okOD la lb) (b : Nat) (hb : b + 9 ≤ n) {ib : Nat → Int32} (hB : E b = ob 6 (rfs ad [b + 1, b + 2, b + 3, b + 4, b + 5, b + 6, b + 7, b + 8]) ib) {ss : Nat → Int32} (h6 : E (b + 6) = aI G 801 ss) {se : Nat → Int32} (h7 : E (b + 7) = aI G 801 se) {os : Nat → Int32} (h8 : E (b + 8) = aI G 801 os) {c : Nat} (hc : (ib 10).toInt = (c : Int)) (hS : STR c ss se os) {T : TST} (hcT : c = T.1) (hZ : ZR (c : Int) ss os T) (hok : okT 69300000 T) (hb98 : 98 ≤ b) {Y : Int} (hY : 1 ≤ Y ∧ Y ≤ 48100) (y : Int32) (hy : y.toInt = Y) : CtV l G yX4_markDays cX4_markDays 9 2 47 (n) ad E [.ref (ad 45), .ref (ad b), .int y] (fun E' => ∃ (mk2 : Nat → Int64) (d0 d1 : Nat), E' 46 = aJ G 31251 mk2 ∧ (1440 * (d0 : Int) + 719 < la ∨ d0 = 0) ∧ (lb + 720 < 1440 * (d1 : Int) ∨ Y ≤ (d1 : Int)) ∧ (∀ x, QMk mk2 la x ↔ QMk mk la x ∨ dyI T Y la lb d0 d1 x) ∧ (∀ n, cntB mk2 n ≤ cntB mk n + 2800) ∧ ∀ j, j ≠ 46 → E' j = E j) := by
  refine CtV.of (by decide) (Nat.le_of_ble_eq_true rfl) (fun X A C => ?_)
  refine v_sub (lv' := [(0, .ref (ad 45)), (1, .ref (ad b)), (2, .int y)]) [0, 1, 2] rfl ?_
  have hc8 := hS.1
  have hab9 := hAB
  unfold okOD at hab9
  refine v_iconst (v := 0) C dX4_markDays_0 (by decide) ?_
  refine v_aload_n C 0 dX4_markDays_1 rfl rfl ?_
  refine v_geti (v := iq 3) C 45 dX4_markDays_2 fX4_23 (by omega) h45 rfl rfl ?_
  refine v_sipush (v := 720) C dX4_markDays_5 (by decide) ?_
  refine v_isub C dX4_markDays_8 ?_
  refine v_top (fun x1 ex1 => ?_)
  have hx1 : x1.toInt = (la - 720) := by rw [ex1]; exact ti_sub hA3 (show (720 : Int32).toInt = 720 by decide) (by omega) (by omega)
  refine v_sipush (v := 1440) C dX4_markDays_9 (by decide) ?_
  refine v_idiv C dX4_markDays_12 (by decide) ?_
  obtain ⟨Q, hQ, hQ1, hQ2⟩ := tdq (x := x1) hx1 (by omega)
  refine v_iconst (v := 1) C dX4_markDays_13 (by decide) ?_
  refine v_isub C dX4_markDays_14 ?_
  refine v_top (fun x2 ex2 => ?_)
  have hx2 : x2.toInt = (Q - 1) := by rw [ex2]; exact ti_sub hQ (show (1 : Int32).toInt = 1 by decide) (by omega) (by omega)
  refine v_mmax C dX4_markDays_15 lX4_72 mJ9_max_7cf53.2.2.1 mJ9_max_7cf53.2.1 mJ9_max_7cf53.1 ⟨by decide, Nat.le_of_ble_eq_true rfl⟩ ⟨Nat.zero_le _, Nat.zero_le _⟩ ?_
  refine v_top (fun x3 ex3 => ?_)
  have hx3 : 0 ≤ x3.toInt ∧ (Q - 1) ≤ x3.toInt ∧ (x3.toInt = 0 ∨ x3.toInt = (Q - 1)) := by rw [ex3]; exact mmax_b (show (0 : Int32).toInt = 0 by decide) hx2
  obtain ⟨d0, hd0⟩ : ∃ q : Nat, x3.toInt = (q : Int) := ⟨x3.toInt.toNat, by omega⟩
  have hd0b : (1440 * (d0 : Int) + 719 < la ∨ d0 = 0) ∧ la ≤ 1440 * (d0 : Int) + 3600 := by omega
  refine v_istore_n (lv' := [(0, .ref (ad 45)), (1, .ref (ad b)), (2, .int y), (3, .int x3)]) C [1, 2, 3, 0] dX4_markDays_18 rfl (by decide) rfl ?_
  refine v_iload_n C 2 dX4_markDays_19 rfl rfl ?_
  refine v_iconst (v := 1) C dX4_markDays_20 (by decide) ?_
  refine v_isub C dX4_markDays_21 ?_
  refine v_top (fun x4 ex4 => ?_)
  have hx4 : x4.toInt = (Y - 1) := by rw [ex4]; exact ti_sub hy (show (1 : Int32).toInt = 1 by decide) (by omega) (by omega)
  refine v_aload_n C 0 dX4_markDays_22 rfl rfl ?_
  refine v_geti (v := iq 4) C 45 dX4_markDays_23 fX4_27 (by omega) h45 rfl rfl ?_
  refine v_sipush (v := 720) C dX4_markDays_26 (by decide) ?_
  refine v_iadd C dX4_markDays_29 ?_
  refine v_top (fun x5 ex5 => ?_)
  have hx5 : x5.toInt = (lb + 720) := by rw [ex5]; exact ti_add hB4 (show (720 : Int32).toInt = 720 by decide) (by omega) (by omega)
  refine v_sipush (v := 1440) C dX4_markDays_30 (by decide) ?_
  refine v_idiv C dX4_markDays_33 (by decide) ?_
  refine v_top (fun x6 ex6 => ?_)
  have hx6 : x6.toInt = ((lb + 720) / 1440) := by rw [ex6]; exact ti_div hx5 (show (1440 : Int32).toInt = 1440 by decide) (by omega) (by omega)
  refine v_mmin C dX4_markDays_34 lX4_30 mJ9_min_7cf53.2.2.1 mJ9_min_7cf53.2.1 mJ9_min_7cf53.1 ⟨by decide, Nat.le_of_ble_eq_true rfl⟩ ⟨Nat.zero_le _, Nat.zero_le _⟩ ?_
  refine v_top (fun x7 ex7 => ?_)
  have hx7 : x7.toInt ≤ (Y - 1) ∧ x7.toInt ≤ ((lb + 720) / 1440) ∧ (x7.toInt = (Y - 1) ∨ x7.toInt = ((lb + 720) / 1440)) := by rw [ex7]; exact mmin_b hx4 hx6
  obtain ⟨lst, hlst⟩ : ∃ q : Int, x7.toInt = q := ⟨_, rfl⟩
  have hlb : lst ≤ Y - 1 ∧ 1440 * lst ≤ lb + 720 ∧ -1 ≤ lst ∧ (lst = Y - 1 ∨ lb + 720 < 1440 * (lst + 1)) := by omega
  refine v_istore (lv' := [(0, .ref (ad 45)), (1, .ref (ad b)), (2, .int y), (3, .int x3), (4, .int x7)]) C [1, 2, 3, 4, 0] dX4_markDays_37 (by decide) rfl ?_
  refine v_aload_n C 1 dX4_markDays_39 rfl rfl ?_
  refine v_iload_n C 3 dX4_markDays_40 rfl rfl ?_
  refine v_sipush (v := 1440) C dX4_markDays_41 (by decide) ?_
  refine v_imul C dX4_markDays_44 ?_
  refine v_top (fun x8 ex8 => ?_)
  have hx8 : x8.toInt = ((d0 : Int) * 1440) := by rw [ex8]; exact ti_mul hd0 (show (1440 : Int32).toInt = 1440 by decide) (by omega) (by omega)
  refine v_sipush (v := 720) C dX4_markDays_45 (by decide) ?_
  refine v_isub C dX4_markDays_48 ?_
  refine v_top (fun x9 ex9 => ?_)
  have hx9 : x9.toInt = (((d0 : Int) * 1440) - 720) := by rw [ex9]; exact ti_sub hx8 (show (720 : Int32).toInt = 720 by decide) (by omega) (by omega)
  refine v_cVp C dX4_markDays_49 lX4_60 mX6_stretchAt b (by omega) hB (by decide) rfl (z_stretch l G n ad _ b hb hB h6 hc hS.1 (fun i j _ h1 h2 => STR_le hS h1 h2) x9) ⟨by decide, by decide⟩ rfl (Nat.le_of_ble_eq_true rfl) ⟨Nat.zero_le _, Nat.zero_le _⟩ (fun r10 hp11 => ?_)
  obtain ⟨j0, hj0, hST⟩ := hp11
  rw [hx9] at hST
  have hj0c := hST.1
  have hTJ := isST_T hcT hZ hST
  refine v_istore (lv' := [(0, .ref (ad 45)), (1, .ref (ad b)), (2, .int y), (3, .int x3), (4, .int x7), (5, .int r10)]) C [1, 2, 3, 4, 5, 0] dX4_markDays_52 (by decide) rfl ?_
  refine v_iload_n C 3 dX4_markDays_54 rfl rfl ?_
  refine v_istore (lv' := [(0, .ref (ad 45)), (1, .ref (ad b)), (2, .int y), (3, .int x3), (4, .int x7), (5, .int r10), (6, .int x3)]) C [1, 2, 3, 4, 5, 6, 0] dX4_markDays_55 (by decide) rfl ?_
  have LP12 : ∀ (t : Nat) (s1 : Nat) (y13 : Int32) (d1 : Nat) (y14 : Int32) (mk1 : Nat → Int64) (E15 : Nat → va_E), (y13.toInt = (s1 : Int)) → (y14.toInt = (d1 : Int)) → (E15 46 = aJ G 31251 mk1 ∧ ∀ j, j ≠ 46 → E15 j = E j) → (d0 ≤ d1) → ((d1 : Int) ≤ lst + 1 ∨ d1 = d0) → (s1 ≤ c) → (∀ i, 1 ≤ i → i ≤ s1 → T.2.1 i ≤ 1440 * (d1 : Int) - 720) → (∀ x, QMk mk1 la x ↔ QMk mk la x ∨ dyI T Y la lb d0 d1 x) → (∀ n, cntB mk1 n ≤ cntB mk n + 2 * (d1 - d0)) → lst + 1 + (d0 : Int) + 1 - (d1 : Int) < (t : Int) → V X G A 9 (QV X G A (n) ad (fun E' => ∃ (mk2 : Nat → Int64) (d0 d1 : Nat), E' 46 = aJ G 31251 mk2 ∧ (1440 * (d0 : Int) + 719 < la ∨ d0 = 0) ∧ (lb + 720 < 1440 * (d1 : Int) ∨ Y ≤ (d1 : Int)) ∧ (∀ x, QMk mk2 la x ↔ QMk mk la x ∨ dyI T Y la lb d0 d1 x) ∧ (∀ n, cntB mk2 n ≤ cntB mk n + 2800) ∧ ∀ j, j ≠ 46 → E' j = E j)) (n) ad 0 0 E15 57 [(0, .ref (ad 45)), (1, .ref (ad b)), (4, .int x7), (5, .int y13), (6, .int y14)] [] := by
    intro t20
    induction t20 with
    | zero => intro s1 y13 d1 y14 mk1 E15 hy13 hy14 hI16 hq17 hq18 hq19 hlw hdy hcn hm22; exfalso; omega
    | succ t20 ih21 =>
      intro s1 y13 d1 y14 mk1 E15 hy13 hy14 hI16 hq17 hq18 hq19 hlw hdy hcn hm22
      obtain ⟨i46, iO⟩ := id hI16
      have mE15_45 := (iO 45 (by omega)).trans h45
      have mE15_b := (iO b (by omega)).trans hB
      have mE15_b6 := (iO (b + 6) (by omega)).trans h6
      have mE15_b7 := (iO (b + 7) (by omega)).trans h7
      have mE15_b8 := (iO (b + 8) (by omega)).trans h8
      refine v_iload C 4 dX4_markDays_57 rfl ?_
      refine v_iload C 2 dX4_markDays_59 rfl ?_
      refine b_icmp_gt C 141 dX4_markDays_61 (by decide) hy14 hlst (fun c23 => ?_) (fun c23 => ?_)
      · exact v_vret C dX4_markDays_141 rfl ⟨mk1, d0, d1, i46, hd0b.1, by omega, hdy, (fun n => by have := hcn n; omega), iO⟩
      · refine v_iload C 4 dX4_markDays_64 rfl ?_
        refine v_sipush (v := 1440) C dX4_markDays_66 (by decide) ?_
        refine v_imul C dX4_markDays_69 ?_
        refine v_top (fun x24 ex24 => ?_)
        have hx24 : x24.toInt = ((d1 : Int) * 1440) := by rw [ex24]; exact ti_mul hy14 (show (1440 : Int32).toInt = 1440 by decide) (by omega) (by omega)
        refine v_sipush (v := 720) C dX4_markDays_70 (by decide) ?_
        refine v_isub C dX4_markDays_73 ?_
        refine v_top (fun x25 ex25 => ?_)
        have hx25 : x25.toInt = (((d1 : Int) * 1440) - 720) := by rw [ex25]; exact ti_sub hx24 (show (720 : Int32).toInt = 720 by decide) (by omega) (by omega)
        refine v_istore (lv' := [(0, .ref (ad 45)), (1, .ref (ad b)), (4, .int x7), (5, .int y13), (6, .int y14), (7, .int x25)]) C [1, 2, 3, 4, 5, 0] dX4_markDays_74 (by decide) rfl ?_
        have LP26 : ∀ (t : Nat) (s2 : Nat) (y27 : Int32) (E28 : Nat → va_E), (y27.toInt = (s2 : Int)) → (∀ j, E28 j = E15 j) → (s2 ≤ c) → (∀ i, 1 ≤ i → i ≤ s2 → T.2.1 i ≤ 1440 * (d1 : Int) - 720) → (c : Int) - (s2 : Int) < (t : Int) → V X G A 9 (QV X G A (n) ad (fun E' => ∃ (mk2 : Nat → Int64) (d0 d1 : Nat), E' 46 = aJ G 31251 mk2 ∧ (1440 * (d0 : Int) + 719 < la ∨ d0 = 0) ∧ (lb + 720 < 1440 * (d1 : Int) ∨ Y ≤ (d1 : Int)) ∧ (∀ x, QMk mk2 la x ↔ QMk mk la x ∨ dyI T Y la lb d0 d1 x) ∧ (∀ n, cntB mk2 n ≤ cntB mk n + 2800) ∧ ∀ j, j ≠ 46 → E' j = E j)) (n) ad 0 0 E28 76 [(0, .ref (ad 45)), (1, .ref (ad b)), (4, .int x7), (5, .int y27), (6, .int y14), (7, .int x25)] [] := by
          intro t31
          induction t31 with
          | zero => intro s2 y27 E28 hy27 hfr29 hq30 hlw2 hm33; exfalso; omega
          | succ t31 ih32 =>
            intro s2 y27 E28 hy27 hfr29 hq30 hlw2 hm33
            have hE28_45 := (hfr29 45 ).trans mE15_45
            have hE28_46 := (hfr29 46 ).trans i46
            have hE28_b := (hfr29 b ).trans mE15_b
            have hE28_b6 := (hfr29 (b + 6) ).trans mE15_b6
            have hE28_b7 := (hfr29 (b + 7) ).trans mE15_b7
            have hE28_b8 := (hfr29 (b + 8) ).trans mE15_b8
            refine v_iload C 3 dX4_markDays_76 rfl ?_
            refine v_aload_n C 1 dX4_markDays_78 rfl rfl ?_
            refine v_geti (v := ib 10) C b dX4_markDays_79 fX4_66 (by omega) hE28_b rfl rfl ?_
            refine b_icmp_ge C 105 dX4_markDays_82 (by decide) hy27 hc (fun c34 => ?_) (fun c34 => ?_)
            · refine v_aload_n C 1 dX4_markDays_105 rfl rfl ?_
              refine v_iload C 4 dX4_markDays_106 rfl ?_
              refine v_iload C 3 dX4_markDays_108 rfl ?_
              refine v_cVp C dX4_markDays_110 lX4_75 mX6_firstOfDay b (by omega) hE28_b (by decide) rfl (z_firstOfDay l G n ad _ b hb hE28_b hE28_b6 hE28_b7 hE28_b8 hc hS hcT hZ hok y14 y27 (d1 := d1) (f0 := s2) hy14 (by omega) hy27 (by omega) hlw2) ⟨by decide, by decide⟩ rfl (Nat.le_of_ble_eq_true rfl) ⟨Nat.zero_le _, Nat.zero_le _⟩ (fun r35 hp36 => ?_)
              have hdr := dy_rng (d := d1) hok
              refine v_istore (lv' := [(0, .ref (ad 45)), (1, .ref (ad b)), (4, .int x7), (5, .int y27), (6, .int y14), (7, .int x25), (8, .int r35)]) C [1, 2, 3, 4, 5, 6, 0] dX4_markDays_113 (by decide) rfl ?_
              refine v_iload C 6 dX4_markDays_115 rfl ?_
              refine v_iconst (v := (-1)) C dX4_markDays_117 (by decide) ?_
              refine b_icmp_eq C 135 dX4_markDays_118 (by decide) hp36 (show ((-1) : Int32).toInt = (-1) by decide) (fun c37 => ?_) (fun c37 => ?_)
              · obtain ⟨x38, ex38⟩ : ∃ y : Int32, y = y14 + 1 := ⟨_, rfl⟩
                have hx38 : x38.toInt = ((d1 : Int) + 1) := by rw [ex38]; exact ti_add hy14 (show (1 : Int32).toInt = 1 by decide) (by omega) (by omega)
                refine v_iinc (v := x38) (lv' := [(0, .ref (ad 45)), (1, .ref (ad b)), (4, .int x7), (5, .int y27), (6, .int x38), (7, .int x25), (8, .int r35)]) C 4 [1, 2, 3, 4, 0, 5, 6] dX4_markDays_135 rfl (ex38.symm) (by decide) rfl ?_
                refine v_goto C 57 dX4_markDays_138 (by decide) ?_
                refine v_sub (lv' := [(0, .ref (ad 45)), (1, .ref (ad b)), (4, .int x7), (5, .int y27), (6, .int x38)]) [0, 1, 2, 3, 4] rfl ?_
                exact ih21 s2 y27 (d1 + 1) x38 mk1 E28 (show Int32.toInt y27 = ((s2 : Nat) : Int) by have := hy27; omega) (show Int32.toInt x38 = ((d1 + 1 : Nat) : Int) by have := hx38; omega) (⟨hE28_46, fun j hj => ((hfr29 j ).trans (iO j hj))⟩) (by omega) (by omega) (by omega) (fun i g1 g2 => by have := hlw2 i g1 g2; omega) (dy_none (by omega) hdy) (fun n => by have := hcn n; omega) (by omega)
              · refine v_aload_n C 0 dX4_markDays_121 rfl rfl ?_
                refine v_iload C 6 dX4_markDays_122 rfl ?_
                refine v_iconst (v := 1) C dX4_markDays_124 (by decide) ?_
                refine v_isub C dX4_markDays_125 ?_
                refine v_top (fun x39 ex39 => ?_)
                have hx39 : x39.toInt = ((dyT T d1) - 1) := by rw [ex39]; exact ti_sub hp36 (show (1 : Int32).toInt = 1 by decide) (by omega) (by omega)
                refine v_cVv C dX4_markDays_126 lX4_36 mX4_mark 45 (by omega) hE28_45 (by decide) rfl (g_mark l G n ad _ hn hE28_45 hE28_46 hA3 hB4 hAB x39 hx39 (by omega)) ⟨by decide, by decide⟩ rfl (Nat.le_of_ble_eq_true rfl) ⟨Nat.zero_le _, Nat.zero_le _⟩ (fun E40 hq41 => ?_)
                obtain ⟨mk42, k142, k242, k342, k442⟩ := hq41
                have hE40_45 := (k442 45 (by omega)).trans hE28_45
                have hE40_b := (k442 b (by omega)).trans hE28_b
                have hE40_b6 := (k442 (b + 6) (by omega)).trans hE28_b6
                have hE40_b7 := (k442 (b + 7) (by omega)).trans hE28_b7
                have hE40_b8 := (k442 (b + 8) (by omega)).trans hE28_b8
                refine v_aload_n C 0 dX4_markDays_129 rfl rfl ?_
                refine v_iload C 6 dX4_markDays_130 rfl ?_
                refine v_cVv C dX4_markDays_132 lX4_36 mX4_mark 45 (by omega) hE40_45 (by decide) rfl (g_mark l G n ad _ hn hE40_45 k142 hA3 hB4 hAB r35 hp36 (by omega)) ⟨by decide, by decide⟩ rfl (Nat.le_of_ble_eq_true rfl) ⟨Nat.zero_le _, Nat.zero_le _⟩ (fun E43 hq44 => ?_)
                obtain ⟨mk45, k145, k245, k345, k445⟩ := hq44
                have hE43_45 := (k445 45 (by omega)).trans hE40_45
                have hE43_b := (k445 b (by omega)).trans hE40_b
                have hE43_b6 := (k445 (b + 6) (by omega)).trans hE40_b6
                have hE43_b7 := (k445 (b + 7) (by omega)).trans hE40_b7
                have hE43_b8 := (k445 (b + 8) (by omega)).trans hE40_b8
                obtain ⟨x46, ex46⟩ : ∃ y : Int32, y = y14 + 1 := ⟨_, rfl⟩
                have hx46 : x46.toInt = ((d1 : Int) + 1) := by rw [ex46]; exact ti_add hy14 (show (1 : Int32).toInt = 1 by decide) (by omega) (by omega)
                refine v_iinc (v := x46) (lv' := [(0, .ref (ad 45)), (1, .ref (ad b)), (4, .int x7), (5, .int y27), (6, .int x46), (7, .int x25), (8, .int r35)]) C 4 [1, 2, 3, 4, 0, 5, 6] dX4_markDays_135 rfl (ex46.symm) (by decide) rfl ?_
                refine v_goto C 57 dX4_markDays_138 (by decide) ?_
                refine v_sub (lv' := [(0, .ref (ad 45)), (1, .ref (ad b)), (4, .int x7), (5, .int y27), (6, .int x46)]) [0, 1, 2, 3, 4] rfl ?_
                exact ih21 s2 y27 (d1 + 1) x46 mk45 E43 (show Int32.toInt y27 = ((s2 : Nat) : Int) by have := hy27; omega) (show Int32.toInt x46 = ((d1 + 1 : Nat) : Int) by have := hx46; omega) (⟨k145, fun j hj => ((k445 j hj).trans ((k442 j hj).trans ((hfr29 j ).trans (iO j hj))))⟩) (by omega) (by omega) (by omega) (fun i g1 g2 => by have := hlw2 i g1 g2; omega) (dy_stepr (by omega) (by omega) (by omega) hdy k242 k245) (fun n => by have := hcn n; have := k342 n; have := k345 n; omega) (by omega)
            · have hs9 := (show (ss (s2 + 1)).toInt = T.2.1 (s2 + 1) from (hZ.2 (s2 + 1) (by omega)).1)
              refine v_aload_n C 1 dX4_markDays_85 rfl rfl ?_
              refine v_getr C b dX4_markDays_86 fX4_69 (by omega) hE28_b rfl rfl ?_
              refine v_iload C 3 dX4_markDays_89 rfl ?_
              refine v_iconst (v := 1) C dX4_markDays_91 (by decide) ?_
              refine v_iadd C dX4_markDays_92 ?_
              refine v_top (fun x47 ex47 => ?_)
              have hx47 : x47.toInt = ((s2 : Int) + 1) := by rw [ex47]; exact ti_add hy27 (show (1 : Int32).toInt = 1 by decide) (by omega) (by omega)
              refine v_ald (v := ss (s2 + 1)) C (b + 6) dX4_markDays_93 (by omega) hE28_b6 (ti_in hx47 (by omega) (by omega)) (by rw [ti_cl hx47, show Int.toNat ((s2 : Int) + 1) = s2 + 1 by omega]) ?_
              refine v_iload C 5 dX4_markDays_94 rfl ?_
              refine b_icmp_gt C 105 dX4_markDays_96 (by decide) hs9 hx25 (fun c48 => ?_) (fun c48 => ?_)
              · refine v_aload_n C 1 dX4_markDays_105 rfl rfl ?_
                refine v_iload C 4 dX4_markDays_106 rfl ?_
                refine v_iload C 3 dX4_markDays_108 rfl ?_
                refine v_cVp C dX4_markDays_110 lX4_75 mX6_firstOfDay b (by omega) hE28_b (by decide) rfl (z_firstOfDay l G n ad _ b hb hE28_b hE28_b6 hE28_b7 hE28_b8 hc hS hcT hZ hok y14 y27 (d1 := d1) (f0 := s2) hy14 (by omega) hy27 (by omega) hlw2) ⟨by decide, by decide⟩ rfl (Nat.le_of_ble_eq_true rfl) ⟨Nat.zero_le _, Nat.zero_le _⟩ (fun r49 hp50 => ?_)
                have hdr := dy_rng (d := d1) hok
                refine v_istore (lv' := [(0, .ref (ad 45)), (1, .ref (ad b)), (4, .int x7), (5, .int y27), (6, .int y14), (7, .int x25), (8, .int r49)]) C [1, 2, 3, 4, 5, 6, 0] dX4_markDays_113 (by decide) rfl ?_
                refine v_iload C 6 dX4_markDays_115 rfl ?_
                refine v_iconst (v := (-1)) C dX4_markDays_117 (by decide) ?_
                refine b_icmp_eq C 135 dX4_markDays_118 (by decide) hp50 (show ((-1) : Int32).toInt = (-1) by decide) (fun c51 => ?_) (fun c51 => ?_)
                · obtain ⟨x52, ex52⟩ : ∃ y : Int32, y = y14 + 1 := ⟨_, rfl⟩
                  have hx52 : x52.toInt = ((d1 : Int) + 1) := by rw [ex52]; exact ti_add hy14 (show (1 : Int32).toInt = 1 by decide) (by omega) (by omega)
                  refine v_iinc (v := x52) (lv' := [(0, .ref (ad 45)), (1, .ref (ad b)), (4, .int x7), (5, .int y27), (6, .int x52), (7, .int x25), (8, .int r49)]) C 4 [1, 2, 3, 4, 0, 5, 6] dX4_markDays_135 rfl (ex52.symm) (by decide) rfl ?_
                  refine v_goto C 57 dX4_markDays_138 (by decide) ?_
                  refine v_sub (lv' := [(0, .ref (ad 45)), (1, .ref (ad b)), (4, .int x7), (5, .int y27), (6, .int x52)]) [0, 1, 2, 3, 4] rfl ?_
                  exact ih21 s2 y27 (d1 + 1) x52 mk1 E28 (show Int32.toInt y27 = ((s2 : Nat) : Int) by have := hy27; omega) (show Int32.toInt x52 = ((d1 + 1 : Nat) : Int) by have := hx52; omega) (⟨hE28_46, fun j hj => ((hfr29 j ).trans (iO j hj))⟩) (by omega) (by omega) (by omega) (fun i g1 g2 => by have := hlw2 i g1 g2; omega) (dy_none (by omega) hdy) (fun n => by have := hcn n; omega) (by omega)
                · refine v_aload_n C 0 dX4_markDays_121 rfl rfl ?_
                  refine v_iload C 6 dX4_markDays_122 rfl ?_
                  refine v_iconst (v := 1) C dX4_markDays_124 (by decide) ?_
                  refine v_isub C dX4_markDays_125 ?_
                  refine v_top (fun x53 ex53 => ?_)
                  have hx53 : x53.toInt = ((dyT T d1) - 1) := by rw [ex53]; exact ti_sub hp50 (show (1 : Int32).toInt = 1 by decide) (by omega) (by omega)
                  refine v_cVv C dX4_markDays_126 lX4_36 mX4_mark 45 (by omega) hE28_45 (by decide) rfl (g_mark l G n ad _ hn hE28_45 hE28_46 hA3 hB4 hAB x53 hx53 (by omega)) ⟨by decide, by decide⟩ rfl (Nat.le_of_ble_eq_true rfl) ⟨Nat.zero_le _, Nat.zero_le _⟩ (fun E54 hq55 => ?_)
                  obtain ⟨mk56, k156, k256, k356, k456⟩ := hq55
                  have hE54_45 := (k456 45 (by omega)).trans hE28_45
                  have hE54_b := (k456 b (by omega)).trans hE28_b
                  have hE54_b6 := (k456 (b + 6) (by omega)).trans hE28_b6
                  have hE54_b7 := (k456 (b + 7) (by omega)).trans hE28_b7
                  have hE54_b8 := (k456 (b + 8) (by omega)).trans hE28_b8
                  refine v_aload_n C 0 dX4_markDays_129 rfl rfl ?_
                  refine v_iload C 6 dX4_markDays_130 rfl ?_
                  refine v_cVv C dX4_markDays_132 lX4_36 mX4_mark 45 (by omega) hE54_45 (by decide) rfl (g_mark l G n ad _ hn hE54_45 k156 hA3 hB4 hAB r49 hp50 (by omega)) ⟨by decide, by decide⟩ rfl (Nat.le_of_ble_eq_true rfl) ⟨Nat.zero_le _, Nat.zero_le _⟩ (fun E57 hq58 => ?_)
                  obtain ⟨mk59, k159, k259, k359, k459⟩ := hq58
                  have hE57_45 := (k459 45 (by omega)).trans hE54_45
                  have hE57_b := (k459 b (by omega)).trans hE54_b
                  have hE57_b6 := (k459 (b + 6) (by omega)).trans hE54_b6
                  have hE57_b7 := (k459 (b + 7) (by omega)).trans hE54_b7
                  have hE57_b8 := (k459 (b + 8) (by omega)).trans hE54_b8
                  obtain ⟨x60, ex60⟩ : ∃ y : Int32, y = y14 + 1 := ⟨_, rfl⟩
                  have hx60 : x60.toInt = ((d1 : Int) + 1) := by rw [ex60]; exact ti_add hy14 (show (1 : Int32).toInt = 1 by decide) (by omega) (by omega)
                  refine v_iinc (v := x60) (lv' := [(0, .ref (ad 45)), (1, .ref (ad b)), (4, .int x7), (5, .int y27), (6, .int x60), (7, .int x25), (8, .int r49)]) C 4 [1, 2, 3, 4, 0, 5, 6] dX4_markDays_135 rfl (ex60.symm) (by decide) rfl ?_
                  refine v_goto C 57 dX4_markDays_138 (by decide) ?_
                  refine v_sub (lv' := [(0, .ref (ad 45)), (1, .ref (ad b)), (4, .int x7), (5, .int y27), (6, .int x60)]) [0, 1, 2, 3, 4] rfl ?_
                  exact ih21 s2 y27 (d1 + 1) x60 mk59 E57 (show Int32.toInt y27 = ((s2 : Nat) : Int) by have := hy27; omega) (show Int32.toInt x60 = ((d1 + 1 : Nat) : Int) by have := hx60; omega) (⟨k159, fun j hj => ((k459 j hj).trans ((k456 j hj).trans ((hfr29 j ).trans (iO j hj))))⟩) (by omega) (by omega) (by omega) (fun i g1 g2 => by have := hlw2 i g1 g2; omega) (dy_stepr (by omega) (by omega) (by omega) hdy k256 k259) (fun n => by have := hcn n; have := k356 n; have := k359 n; omega) (by omega)
              · obtain ⟨x61, ex61⟩ : ∃ y : Int32, y = y27 + 1 := ⟨_, rfl⟩
                have hx61 : x61.toInt = ((s2 : Int) + 1) := by rw [ex61]; exact ti_add hy27 (show (1 : Int32).toInt = 1 by decide) (by omega) (by omega)
                refine v_iinc (v := x61) (lv' := [(0, .ref (ad 45)), (1, .ref (ad b)), (4, .int x7), (5, .int x61), (6, .int y14), (7, .int x25)]) C 3 [1, 2, 3, 0, 4, 5] dX4_markDays_99 rfl (ex61.symm) (by decide) rfl ?_
                refine v_goto C 76 dX4_markDays_102 (by decide) ?_
                exact ih32 (s2 + 1) x61 E28 (show Int32.toInt x61 = ((s2 + 1 : Nat) : Int) by have := hx61; omega) (fun j => (hfr29 j )) (by omega) (fun i g1 g2 => by by_cases e : i = s2 + 1; (subst e; omega); exact hlw2 i g1 (by omega)) (by omega)
        exact LP26 100000 s1 y13 E15 (show Int32.toInt y13 = ((s1 : Nat) : Int) by have := hy13; omega) (fun j => rfl) (by omega) (hlw) (by omega)
  refine v_sub (lv' := [(0, .ref (ad 45)), (1, .ref (ad b)), (4, .int x7), (5, .int r10), (6, .int x3)]) [0, 1, 4, 5, 6] rfl ?_
  exact LP12 100000 j0 r10 d0 x3 mk E (show Int32.toInt r10 = ((j0 : Nat) : Int) by have := hj0; omega) (show Int32.toInt x3 = ((d0 : Nat) : Int) by have := hd0; omega) (⟨h46, fun _ _ => rfl⟩) (by omega) (by omega) (by omega) (fun i g1 g2 => by have := hTJ.2.1 i g1 g2; omega) (fun x => ⟨Or.inl, fun q => q.elim id (fun z => by obtain ⟨-, d, i1, i2, -⟩ := z; omega)⟩) (fun n => Nat.le_add_right _ _) (by omega)

set_option maxRecDepth 20000 in
theorem g_listMarks (l : Launch) (G : Gl) (n : Nat) (ad : Nat → Nat) (E : Nat → va_E) (hn : 98 ≤ n) {iq : Nat → Int32} (h45 : E 45 = ob 4 (rfs ad [46, 47]) iq) {mk : Nat → Int64} (h46 : E 46 = aJ G 31251 mk) {la lb : Int} (hA3 : (iq 3).toInt = la) (hB4 : (iq 4).toInt = lb) (hAB : okOD la lb) {ls : Nat → Int32} (h47 : E 47 = aI G 26002 ls) {Wn : Nat} (hWn : Wn ≤ 31251) (hcap : cntB mk (64 * Wn) ≤ 26002) (x : Int32) (hx : x.toInt = (Wn : Int)) : CtV l G yX4_listMarks cX4_listMarks 8 1 21 (n) ad E [.ref (ad 45), .int x] (fun E' => LMs G ad E E' iq mk la (64 * Wn)) := by
  refine CtV.of (by decide) (Nat.le_of_ble_eq_true rfl) (fun X A C => ?_)
  refine v_sub (lv' := [(0, .ref (ad 45)), (1, .int x)]) [0, 1] rfl ?_
  have hab9 := hAB
  unfold okOD at hab9
  refine v_aload_n C 0 dX4_listMarks_0 rfl rfl ?_
  refine v_iconst (v := 0) C dX4_listMarks_1 (by decide) ?_
  refine v_puti C 45 dX4_listMarks_2 fX4_78 (by omega) h45 rfl rfl rfl rfl (fun E1 hE1_45 oE1 => ?_)
  have hE1_46 := (oE1 46 (by decide)).trans h46
  have hE1_47 := (oE1 47 (by decide)).trans h47
  refine v_iconst (v := 0) C dX4_listMarks_5 (by decide) ?_
  refine v_istore_n (lv' := [(0, .ref (ad 45)), (1, .int x), (2, .int 0)]) C [1, 2, 0] dX4_listMarks_6 rfl (by decide) rfl ?_
  have LP2 : ∀ (t : Nat) (i1 : Nat) (y3 : Int32) (E4 : Nat → va_E), (y3.toInt = (i1 : Int)) → (LMs G ad E E4 iq mk la (64 * i1)) → (i1 ≤ Wn) → (Wn : Int) - (i1 : Int) < (t : Int) → V X G A 8 (QV X G A (n) ad (fun E' => LMs G ad E E' iq mk la (64 * Wn))) (n) ad 0 0 E4 7 [(0, .ref (ad 45)), (1, .int x), (2, .int y3)] [] := by
    intro t7
    induction t7 with
    | zero => intro i1 y3 E4 hy3 hI5 hq6 hm9; exfalso; omega
    | succ t7 ih8 =>
      intro i1 y3 E4 hy3 hI5 hq6 hm9
      obtain ⟨iqa, lsa, n45a, nqa, n2a, n47a, nra, nOa⟩ := id hI5
      have n46a := (nOa 46 (by decide) (by decide)).trans h46
      have n3a : (iqa 3).toInt = la := by rw [nqa 3 (by decide)]; exact hA3
      refine v_iload_n C 2 dX4_listMarks_7 rfl rfl ?_
      refine v_iload_n C 1 dX4_listMarks_8 rfl rfl ?_
      refine b_icmp_ge C 106 dX4_listMarks_9 (by decide) hy3 hx (fun c10 => ?_) (fun c10 => ?_)
      · exact v_vret C dX4_listMarks_106 rfl (by rw [show Wn = i1 by omega]; exact hI5)
      · refine v_aload_n C 0 dX4_listMarks_12 rfl rfl ?_
        refine v_getr C 45 dX4_listMarks_13 fX4_9 (by omega) n45a rfl rfl ?_
        refine v_iload_n C 2 dX4_listMarks_16 rfl rfl ?_
        refine v_jald (v := mk i1) C 46 dX4_listMarks_17 (by omega) n46a (ti_in hy3 (by omega) (by omega)) (by rw [ti_cl hy3, show Int.toNat (i1 : Int) = i1 by omega]) ?_
        refine v_lstore_n (lv' := [(0, .ref (ad 45)), (1, .int x), (2, .int y3), (3, .long (mk i1))]) C [1, 2, 3, 0] dX4_listMarks_18 rfl (by decide) rfl ?_
        refine v_iconst (v := 0) C dX4_listMarks_19 (by decide) ?_
        refine v_istore (lv' := [(0, .ref (ad 45)), (1, .int x), (2, .int y3), (3, .long (mk i1)), (5, .int 0)]) C [1, 2, 3, 4, 0] dX4_listMarks_20 (by decide) rfl ?_
        have LP12 : ∀ (t : Nat) (lf : Int64) (k1 : Nat) (y14 : Int32) (q1 : Nat) (E15 : Nat → va_E), (y14.toInt = (k1 : Int)) → (LMs G ad E E15 iq mk la (64 * i1 + q1)) → (k1 ≤ q1) → (q1 ≤ 64) → (∀ j, j < 64 → (lf.toBitVec.getLsbD j = true ↔ btB mk (64 * i1 + j) = true ∧ q1 ≤ j)) → 64 - (q1 : Int) < (t : Int) → V X G A 8 (QV X G A (n) ad (fun E' => LMs G ad E E' iq mk la (64 * Wn))) (n) ad 0 0 E15 22 [(0, .ref (ad 45)), (1, .int x), (2, .int y3), (3, .long lf), (5, .int y14)] [] := by
          intro t19
          induction t19 with
          | zero => intro lf k1 y14 q1 E15 hy14 hI16 hq17 hq18 hbits hm21; exfalso; omega
          | succ t19 ih20 =>
            intro lf k1 y14 q1 E15 hy14 hI16 hq17 hq18 hbits hm21
            obtain ⟨iqb, lsb, n45b, nqb, n2b, n47b, nrb, nOb⟩ := id hI16
            have n46b := (nOb 46 (by decide) (by decide)).trans h46
            have n3b : (iqb 3).toInt = la := by rw [nqb 3 (by decide)]; exact hA3
            refine v_iload C 4 dX4_listMarks_22 rfl ?_
            refine v_bipush (v := 64) C dX4_listMarks_24 (by decide) ?_
            refine b_icmp_ge C 100 dX4_listMarks_26 (by decide) hy14 (show (64 : Int32).toInt = 64 by decide) (fun c22 => ?_) (fun c22 => ?_)
            · obtain ⟨x23, ex23⟩ : ∃ y : Int32, y = y3 + 1 := ⟨_, rfl⟩
              have hx23 : x23.toInt = ((i1 : Int) + 1) := by rw [ex23]; exact ti_add hy3 (show (1 : Int32).toInt = 1 by decide) (by omega) (by omega)
              refine v_iinc (v := x23) (lv' := [(0, .ref (ad 45)), (1, .int x), (2, .int x23), (3, .long lf), (5, .int y14)]) C 2 [1, 2, 0, 3, 4] dX4_listMarks_100 rfl (ex23.symm) (by decide) rfl ?_
              refine v_goto C 7 dX4_listMarks_103 (by decide) ?_
              refine v_sub (lv' := [(0, .ref (ad 45)), (1, .int x), (2, .int x23)]) [0, 1, 2] rfl ?_
              exact ih8 (i1 + 1) x23 E15 (show Int32.toInt x23 = ((i1 + 1 : Nat) : Int) by have := hx23; omega) ((LMs.skip hI16 (by omega) (fun p g1 g2 => by exfalso; omega))) (by omega) (by omega)
            · refine v_lload_n C 3 dX4_listMarks_29 rfl rfl ?_
              refine v_lconst (v := 0) C dX4_listMarks_30 (by decide) ?_
              refine v_lcmp C dX4_listMarks_31 ?_
              refine v_top (fun x24 ex24 => ?_)
              have hx24 : (0 < Int64.toInt lf ∧ x24.toInt = 1) ∨ (Int64.toInt lf = 0 ∧ x24.toInt = 0) ∨ (Int64.toInt lf < 0 ∧ x24.toInt = -1) := by rw [ex24]; exact tl_cmp (rfl : Int64.toInt lf = _) (show ((0 : Int64)).toInt = 0 by decide)
              refine b_if_eq C 100 dX4_listMarks_32 (by decide) (rfl : Int32.toInt x24 = _) (fun c25 => ?_) (fun c25 => ?_)
              · obtain ⟨x26, ex26⟩ : ∃ y : Int32, y = y3 + 1 := ⟨_, rfl⟩
                have hx26 : x26.toInt = ((i1 : Int) + 1) := by rw [ex26]; exact ti_add hy3 (show (1 : Int32).toInt = 1 by decide) (by omega) (by omega)
                refine v_iinc (v := x26) (lv' := [(0, .ref (ad 45)), (1, .int x), (2, .int x26), (3, .long lf), (5, .int y14)]) C 2 [1, 2, 0, 3, 4] dX4_listMarks_100 rfl (ex26.symm) (by decide) rfl ?_
                refine v_goto C 7 dX4_listMarks_103 (by decide) ?_
                refine v_sub (lv' := [(0, .ref (ad 45)), (1, .int x), (2, .int x26)]) [0, 1, 2] rfl ?_
                exact ih8 (i1 + 1) x26 E15 (show Int32.toInt x26 = ((i1 + 1 : Nat) : Int) by have := hx26; omega) ((LMs.skip hI16 (by omega) (fun p g1 g2 q => by have z := lm_none hbits g1 (by omega) q; rw [show lf = 0 from Int64.toInt_inj.mp ((show Int64.toInt lf = 0 by omega).trans (by decide))] at z; simp at z))) (by omega) (by omega)
              · have hnz : Int64.toInt lf ≠ 0 := by omega
                have hne : lf ≠ 0 := fun q => hnz (by rw [q]; decide)
                obtain ⟨e, he, hbe, hbl⟩ := lo_bit hne
                have hbe2 := (hbits e he).mp hbe
                have hnb : ∀ p, (64 * i1 + q1) ≤ p → p < 64 * i1 + e → ¬ btB mk p = true := fun p g1 g2 q => by have z := lm_none hbits g1 (by omega) q; rw [hbl (p - 64 * i1) (by omega)] at z; cases z
                have hcs : cntB mk (64 * i1 + e) = cntB mk (64 * i1 + q1) := cB_to (by omega) hnb
                have hcy := cB_y hbe2.1
                have hcl := cB_le (mk := mk) (show 64 * i1 + e + 1 ≤ 64 * Wn by omega)
                have hcn := cB_le (mk := mk) (show (64 * i1 + q1) ≤ 64 * Wn by omega)
                refine v_aload_n C 0 dX4_listMarks_35 rfl rfl ?_
                refine v_geti (v := iqb 2) C 45 dX4_listMarks_36 fX4_78 (by omega) n45b rfl rfl ?_
                refine v_aload_n C 0 dX4_listMarks_39 rfl rfl ?_
                refine v_getr C 45 dX4_listMarks_40 fX4_15 (by omega) n45b rfl rfl ?_
                refine v_alenI (v := 26002) C 47 dX4_listMarks_43 (by omega) n47b (by decide) ?_
                refine b_icmp_ge C 100 dX4_listMarks_44 (by decide) n2b (show (26002 : Int32).toInt = 26002 by decide) (fun c27 => by exfalso; omega) (fun c27 => ?_)
                refine v_lload_n C 3 dX4_listMarks_47 rfl rfl ?_
                refine v_lload_n C 3 dX4_listMarks_48 rfl rfl ?_
                refine v_lneg C dX4_listMarks_49 ?_
                refine v_eql (y := -lf) (rfl) ?_
                refine v_land C dX4_listMarks_50 ?_
                refine v_eql (y := pw e) (lo_and he hbe hbl) ?_
                refine v_lstore (lv' := [(0, .ref (ad 45)), (1, .int x), (2, .int y3), (3, .long lf), (5, .int y14), (6, .long (pw e))]) C [1, 2, 3, 4, 5, 0] dX4_listMarks_51 (by decide) rfl ?_
                refine v_aload_n C 0 dX4_listMarks_53 rfl rfl ?_
                refine v_getr C 45 dX4_listMarks_54 fX4_15 (by omega) n45b rfl rfl ?_
                refine v_aload_n C 0 dX4_listMarks_57 rfl rfl ?_
                refine v_geti (v := iqb 2) C 45 dX4_listMarks_58 fX4_78 (by omega) n45b rfl rfl ?_
                refine v_aload_n C 0 dX4_listMarks_61 rfl rfl ?_
                refine v_geti (v := iqb 3) C 45 dX4_listMarks_62 fX4_23 (by omega) n45b rfl rfl ?_
                refine v_iload_n C 2 dX4_listMarks_65 rfl rfl ?_
                refine v_bipush (v := 64) C dX4_listMarks_66 (by decide) ?_
                refine v_imul C dX4_listMarks_68 ?_
                refine v_top (fun x28 ex28 => ?_)
                have hx28 : x28.toInt = ((i1 : Int) * 64) := by rw [ex28]; exact ti_mul hy3 (show (64 : Int32).toInt = 64 by decide) (by omega) (by omega)
                refine v_iadd C dX4_listMarks_69 ?_
                refine v_top (fun x29 ex29 => ?_)
                have hx29 : x29.toInt = (la + ((i1 : Int) * 64)) := by rw [ex29]; exact ti_add n3b hx28 (by omega) (by omega)
                refine v_lload C 5 dX4_listMarks_70 rfl ?_
                refine v_lconst (v := 1) C dX4_listMarks_72 (by decide) ?_
                refine v_lsub C dX4_listMarks_73 ?_
                refine v_eql (y := (pw e) - 1) (rfl) ?_
                refine v_cSp C dX4_listMarks_74 lX4_81 mJ13_bitCount_95d88 (c_bitCount l G _ ad _ ((pw e) - 1)) ⟨by decide, by decide⟩ rfl (Nat.le_of_ble_eq_true rfl) ⟨Nat.zero_le _, Nat.zero_le _⟩ (fun r30 hp31 => ?_)
                have hbc : r30.toInt = (e : Int) := by rw [hp31]; exact pw_bc e he
                refine v_iadd C dX4_listMarks_77 ?_
                refine v_top (fun x32 ex32 => ?_)
                have hx32 : x32.toInt = ((la + ((i1 : Int) * 64)) + (e : Int)) := by rw [ex32]; exact ti_add hx29 hbc (by omega) (by omega)
                refine v_ast C 47 dX4_listMarks_78 (by omega) n47b (ti_in n2b (by omega) (by omega)) (fun E33 hE33_47 oE33 => ?_)
                rw [ti_cl n2b, show Int.toNat (cntB mk (64 * i1 + q1) : Int) = cntB mk (64 * i1 + q1) by omega] at hE33_47
                have hE33_45 := (oE33 45 (by decide)).trans n45b
                have hE33_46 := (oE33 46 (by decide)).trans n46b
                refine v_aload_n C 0 dX4_listMarks_79 rfl rfl ?_
                refine v_dup C dX4_listMarks_80 rfl ?_
                refine v_geti (v := iqb 2) C 45 dX4_listMarks_81 fX4_78 (by omega) hE33_45 rfl rfl ?_
                refine v_iconst (v := 1) C dX4_listMarks_84 (by decide) ?_
                refine v_iadd C dX4_listMarks_85 ?_
                refine v_top (fun x34 ex34 => ?_)
                have hx34 : x34.toInt = ((cntB mk (64 * i1 + q1) : Int) + 1) := by rw [ex34]; exact ti_add n2b (show (1 : Int32).toInt = 1 by decide) (by omega) (by omega)
                refine v_puti C 45 dX4_listMarks_86 fX4_78 (by omega) hE33_45 rfl rfl rfl rfl (fun E35 hE35_45 oE35 => ?_)
                have hE35_46 := (oE35 46 (by decide)).trans hE33_46
                have hE35_47 := (oE35 47 (by decide)).trans hE33_47
                refine v_lload_n C 3 dX4_listMarks_89 rfl rfl ?_
                refine v_lload C 5 dX4_listMarks_90 rfl ?_
                refine v_lxor C dX4_listMarks_92 ?_
                refine v_eql (y := lf ^^^ (pw e)) (rfl) ?_
                refine v_lstore_n (lv' := [(0, .ref (ad 45)), (1, .int x), (2, .int y3), (3, .long (lf ^^^ (pw e))), (5, .int y14), (6, .long (pw e))]) C [1, 2, 3, 0, 4, 5] dX4_listMarks_93 rfl (by decide) rfl ?_
                obtain ⟨x36, ex36⟩ : ∃ y : Int32, y = y14 + 1 := ⟨_, rfl⟩
                have hx36 : x36.toInt = ((k1 : Int) + 1) := by rw [ex36]; exact ti_add hy14 (show (1 : Int32).toInt = 1 by decide) (by omega) (by omega)
                refine v_iinc (v := x36) (lv' := [(0, .ref (ad 45)), (1, .int x), (2, .int y3), (3, .long (lf ^^^ (pw e))), (5, .int x36), (6, .long (pw e))]) C 4 [1, 2, 3, 4, 0, 5] dX4_listMarks_94 rfl (ex36.symm) (by decide) rfl ?_
                refine v_goto C 22 dX4_listMarks_97 (by decide) ?_
                refine v_sub (lv' := [(0, .ref (ad 45)), (1, .int x), (2, .int y3), (3, .long (lf ^^^ (pw e))), (5, .int x36)]) [0, 1, 2, 3, 4] rfl ?_
                exact ih20 (lf ^^^ (pw e)) (k1 + 1) x36 (e + 1) E35 (show Int32.toInt x36 = ((k1 + 1 : Nat) : Int) by have := hx36; omega) (⟨_, _, hE35_45, (fun q hq => (if_neg hq).trans (nqb q hq)), (show Int32.toInt x34 = _ by have z9 := hx34; have h9 : cntB mk (64 * i1 + (e + 1)) = cntB mk (64 * i1 + q1) + 1 := hcy.trans (by rw [hcs]); omega), hE35_47, lm_rank (P := 64 * i1 + q1) (e := 64 * i1 + e) (by omega) hnb hbe2.1 (show Int32.toInt x32 = la + ((64 * i1 + e : Nat) : Int) by have := hx32; omega) nrb, fun j g1 g2 => ((oE35 j (by omega)).trans ((oE33 j (by omega)).trans (nOb j (by omega) (by omega))))⟩) (by omega) (by omega) (lm_bits he hbe hbl hbe2.2 hbits) (by omega)
        exact LP12 100000 (mk i1) 0 0 0 E4 (show Int32.toInt 0 = ((0 : Nat) : Int) by have := (show (0 : Int32).toInt = 0 by decide); omega) (hI5) (by omega) (by omega) (fun j hj => by unfold btB; rw [show (64 * i1 + j) / 64 = i1 by omega, show (64 * i1 + j) % 64 = j by omega]; exact ⟨fun q => ⟨q, Nat.zero_le _⟩, fun q => q.1⟩) (by omega)
  exact LP2 100000 0 0 E1 (show Int32.toInt 0 = ((0 : Nat) : Int) by have := (show (0 : Int32).toInt = 0 by decide); omega) (⟨_, ls, hE1_45, (fun q hq => if_neg hq), (show (0 : Int32).toInt = ((0 : Nat) : Int) by decide), hE1_47, (fun p h => absurd h (by omega)), fun j g1 g2 => (oE1 j (by omega))⟩) (by omega) (by omega)

