/-! ===== the rules of a zone: the walls that they say ===== -/
theorem NW_r {ic md : Nat → Int32} (h : CalP ic md) {k : Nat} (hk : k < 1200) {wd n : Int} (hn : 0 ≤ n) : NWf ic md k wd n = -1 ∨ (FKf ic md k ≤ NWf ic md k wd n ∧ NWf ic md k wd n < FKf ic md (k + 1)) := by
  have h7 := h.2.2.2.2.1
  have w0 := mod_b (a := wd - (FKf ic md k + (ic 8).toInt) % (ic 7).toInt) (b := (ic 7).toInt) (by omega)
  change 0 ≤ W0f ic md k wd ∧ W0f ic md k wd < _ at w0
  have q1 := Int.mul_nonneg hn (show 0 ≤ (ic 7).toInt by omega)
  have hW : 0 ≤ WOf ic md k wd n := by
    unfold WOf
    split
    · omega
    · split
      · have := div_b (a := LKf ic md k - 1 - W0f ic md k wd) (b := (ic 7).toInt) (by omega) (by omega)
        omega
      · omega
  rw [FK_next h]
  unfold NWf
  split
  · right; omega
  · left; rfl
theorem NW_d {ic md : Nat → Int32} (h : CalP ic md) {k : Nat} (hk : k < 1200) {wd n : Int} (hn : 0 ≤ n) : NWf ic md k wd n = -1 ∨ (0 ≤ NWf ic md k wd n ∧ NWf ic md k wd n ≤ 48099) := by
  have h1 := NW_r h hk (wd := wd) hn
  have h2 := FK_b h (k := k) (by omega)
  have h3 := FK_mono h (a := k + 1) (b := 1200) (by omega)
  rw [FK_end h] at h3
  have h4 := cal_y h
  omega
def WMf (ic md : Nat → Int32) (F T O A : Int) (y : Nat) : Int := if F ≤ (y : Int) ∧ (y : Int) ≤ T ∧ NWf ic md (12 * y + (O / 1000).toNat) (O / 10 % 100) (O % 10) ≠ -1 then 1440 * NWf ic md (12 * y + (O / 1000).toNat) (O / 10 % 100) (O % 10) + A else -1
def WZ (ic md rf rto ron rat : Nat → Int32) (zz R : Nat) (r y : Nat) : Int := if r < R ∧ y < 100 then WMf ic md (rf (8 * zz + r)).toInt (rto (8 * zz + r)).toInt (ron (8 * zz + r)).toInt (rat (8 * zz + r)).toInt y else -1
def BZ (rbe : Nat → Int32) (zz r : Nat) : Int := (rbe (8 * zz + r)).toInt
def tdz (rtd : Nat → Int32) (zz : Nat) : Nat → Int32 := fun r => rtd (8 * zz + r)
/-- a rule as it may be told -/
def RVp (ic : Nat → Int32) (F T O A Bc : Int) : Prop := (0 ≤ F ∧ F ≤ 99) ∧ (0 ≤ T ∧ T ≤ 99) ∧ (0 ≤ O ∧ O / 1000 < 12 ∧ O / 10 % 100 < (ic 7).toInt ∧ O % 10 ≤ 4) ∧ (0 ≤ A ∧ A ≤ 1439) ∧ -720 ≤ Bc ∧ Bc ≤ 720
def RVs (ic rf rto ron rat rbe rtd : Nat → Int32) (zz R : Nat) : Prop := (∀ r, r < R → RVp ic (rf (8 * zz + r)).toInt (rto (8 * zz + r)).toInt (ron (8 * zz + r)).toInt (rat (8 * zz + r)).toInt (rbe (8 * zz + r)).toInt) ∧ ∀ r s, r ≤ s → s < R → (rtd (8 * zz + r)).toInt ≤ (rtd (8 * zz + s)).toInt
theorem rgY_skip {W : Nat → Nat → Int} {b : Int} {r : Nat} {L : List (Int × Int)} : ∀ Y, (∀ y, y < Y → W r y = -1) → rgY W b r L Y = L := by
  intro Y
  induction Y with
  | zero => intro _; rfl
  | succ Y ih => intro h; unfold rgY; rw [if_pos (h Y (by omega))]; exact ih (fun y hy => h y (by omega))
theorem rgY_tail {W : Nat → Nat → Int} {b : Int} {r : Nat} {L : List (Int × Int)} {Y : Nat} : ∀ d, (∀ y, Y ≤ y → y < Y + d → W r y = -1) → rgY W b r L (Y + d) = rgY W b r L Y := by
  intro d
  induction d with
  | zero => intro _; rfl
  | succ d ih =>
    intro h
    show (if W r (Y + d) = -1 then rgY W b r L (Y + d) else insL (W r (Y + d)) b (rgY W b r L (Y + d))) = _
    rw [if_pos (h (Y + d) (by omega) (by omega))]
    exact ih (fun y h1 h2 => h y h1 (by omega))
theorem rgY_s {W : Nat → Nat → Int} {b : Int} {r Y : Nat} {L : List (Int × Int)} (h : W r Y ≠ -1) : rgY W b r L (Y + 1) = insL (W r Y) b (rgY W b r L Y) := if_neg h
theorem rgY_k {W : Nat → Nat → Int} {b : Int} {r Y : Nat} {L : List (Int × Int)} (h : W r Y = -1) : rgY W b r L (Y + 1) = rgY W b r L Y := if_pos h
theorem AR_rgY {W : Nat → Nat → Int} {b w v : Int} {r Y c : Nat} {L : List (Int × Int)} {sw so : Nat → Int32} (hA : AR c sw so (insL w v (rgY W b r L Y))) (h1 : W r Y = w) (h2 : w ≠ -1) (h3 : b = v) : AR c sw so (rgY W b r L (Y + 1)) := by
  rw [rgY_s (by rw [h1]; exact h2), h1]
  rw [← h3] at hA
  exact hA
theorem cnt_all {to : Nat → Int32} {kn : Int} {R : Nat} (hs : ∀ r s, r ≤ s → s < R → (to r).toInt ≤ (to s).toInt) : ∀ r, r ≤ R → (∀ q, q < r → (to q).toInt ≤ kn) → cntT to kn r = r := by
  intro r
  induction r with
  | zero => intro _ _; rfl
  | succ r ih =>
    intro hr h
    show (if (to r).toInt ≤ kn then cntT to kn r + 1 else cntT to kn r) = _
    rw [if_pos (h r (by omega)), ih (by omega) (fun q hq => h q (by omega))]
theorem cnt_yes {to : Nat → Int32} {kn : Int} {R r : Nat} (hs : ∀ r s, r ≤ s → s < R → (to r).toInt ≤ (to s).toInt) (hr : r < R) (h : (to r).toInt ≤ kn) : cntT to kn r = r ∧ cntT to kn (r + 1) = r + 1 := by
  have h1 := cnt_all hs r (by omega) (fun q hq => Int.le_trans (hs q r (by omega) hr) h)
  refine ⟨h1, ?_⟩
  show (if (to r).toInt ≤ kn then cntT to kn r + 1 else cntT to kn r) = _
  rw [if_pos h, h1]
theorem cnt_no {to : Nat → Int32} {kn : Int} {r : Nat} (h : ¬ (to r).toInt ≤ kn) : cntT to kn (r + 1) = cntT to kn r := by
  show (if (to r).toInt ≤ kn then cntT to kn r + 1 else cntT to kn r) = _
  rw [if_neg h]
def MC0 (ic md im im1 mf1 : Nat → Int32) : Prop := icm im1 = ic ∧ (∀ q, q ≠ 7 → im1 q = im q) ∧ (im1 7 = 0 ∨ im1 7 = 1) ∧ (mf1 0).toInt = 0 ∧ (im1 7 = 1 → ∀ q, q < 1201 → (mf1 q).toInt = FKf ic md q)
section WZS
variable {ic md rf rto ron rat rbe rtd : Nat → Int32} {zz R p y : Nat} {kn : Int}
theorem RV_at (h : RVs ic rf rto ron rat rbe rtd zz R) (h1 : 8 * zz ≤ p) (h2 : p < 8 * zz + R) : RVp ic (rf p).toInt (rto p).toInt (ron p).toInt (rat p).toInt (rbe p).toInt := by
  have := h.1 (p - 8 * zz) (by omega)
  rw [show 8 * zz + (p - 8 * zz) = p by omega] at this
  exact this
theorem WZ_at (h1 : 8 * zz ≤ p) (h2 : p < 8 * zz + R) (hy : y < 100) : WZ ic md rf rto ron rat zz R (p - 8 * zz) y = WMf ic md (rf p).toInt (rto p).toInt (ron p).toInt (rat p).toInt y := by
  unfold WZ
  rw [if_pos ⟨by omega, hy⟩, show 8 * zz + (p - 8 * zz) = p by omega]
theorem WZ_out (h1 : 8 * zz ≤ p) (h2 : p < 8 * zz + R) (h : ¬ ((rf p).toInt ≤ (y : Int) ∧ (y : Int) ≤ (rto p).toInt)) : WZ ic md rf rto ron rat zz R (p - 8 * zz) y = -1 := by
  by_cases hy : y < 100
  · rw [WZ_at h1 h2 hy]
    unfold WMf
    rw [if_neg (fun q => h ⟨q.1, q.2.1⟩)]
  · unfold WZ
    rw [if_neg (fun q => hy q.2)]
end WZS
