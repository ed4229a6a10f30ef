theorem ty_any0 {G : Gl} {ad : Nat → Nat} {x : va_E} {N : Nat} {lo hi : Int} (h : x = aI G N (fun _ => 0)) (h1 : lo ≤ 0) (h2 : 0 ≤ hi) : HasTy G ad (1, N, [], bdc lo hi) x :=
  ⟨fun q => absurd (show (1 : Nat) = 0 from q) (by decide), fun _ => ⟨_, h, fun _ => ⟨h1, h2⟩⟩, fun q => absurd (show (1 : Nat) = 2 from q) (by decide), fun q => absurd (show (1 : Nat) = 3 from q) (by decide)⟩
theorem ty_ob0 {G : Gl} {ad : Nat → Nat} {x : va_E} {ci : Nat} {L : List Nat} {bd : Nat → Int × Int} (h : x = ob ci (rfs ad L) ip0) (hb : ∀ q, (bd q).1 ≤ 0 ∧ 0 ≤ (bd q).2) : HasTy G ad (0, ci, L, bd) x :=
  ⟨fun _ => ⟨ip0, h, hb⟩, fun q => absurd (show (0 : Nat) = 1 from q) (by decide), fun q => absurd (show (0 : Nat) = 2 from q) (by decide), fun q => absurd (show (0 : Nat) = 3 from q) (by decide)⟩
theorem fresh_C8 {G : Gl} {ad : Nat → Nat} {E : Nat → va_E} (h : Fresh8 G ad E) : C8 G ad 0 ic0 md30 0 99999 (fun _ => 0) E := by
  obtain ⟨h0, hC, h6, h7, h8, hPf, h45, h46, h47, h48, h49, h50, h51, hq52, hq58, h64, h65, h66, h67⟩ := h
  have any0 : ∀ q, (anyB q).1 ≤ 0 ∧ 0 ≤ (anyB q).2 := fun q => by unfold anyB; decide
  refine ⟨⟨by decide, ⟨⟨io0, h0⟩, ⟨ic0, md30, hC⟩, ⟨_, h7, fun i hi => absurd hi (Nat.not_lt_zero i)⟩, _, h8, hfp8⟩, fun _ _ => rfl, fun j hj => ?_⟩, hC, ⟨io0, h0, rfl, rfl⟩, fun p hp => ⟨ip0, (hPf p hp).1, rfl⟩⟩
  have hj : j < 98 := hj
  by_cases q1 : 9 ≤ j ∧ j < 45
  · obtain ⟨i, r, hi, hr, rfl⟩ : ∃ i r, i < 6 ∧ r < 6 ∧ j = 9 + 6 * i + r := ⟨(j - 9) / 6, (j - 9) % 6, by omega, by omega, by omega⟩
    rw [(PC.p hi).t 0 hr]
    exact pg_ty (hPf i hi).w (by decide) (by decide) hr
  by_cases q2 : 52 ≤ j ∧ j < 58
  · obtain ⟨r, hr, rfl⟩ : ∃ r, r < 6 ∧ j = 52 + r := ⟨j - 52, by omega, by omega⟩
    rw [pc52.t 0 hr]
    exact pg_ty hq52.w (by decide) (by decide) hr
  by_cases q3 : 58 ≤ j ∧ j < 64
  · obtain ⟨r, hr, rfl⟩ : ∃ r, r < 6 ∧ j = 58 + r := ⟨j - 58, by omega, by omega⟩
    rw [pc58.t 0 hr]
    exact pg_ty hq58.w (by decide) (by decide) hr
  by_cases q4 : 68 ≤ j
  · rw [Ty8_mid ⟨q4, hj⟩]; exact HasTy.out
  rcases (show (j < 6 ∨ j = 7 ∨ j = 8) ∨ j = 6 ∨ j = 45 ∨ j = 46 ∨ j = 47 ∨ j = 48 ∨ j = 49 ∨ j = 50 ∨ j = 51 ∨ j = 64 ∨ j = 65 ∨ j = 66 ∨ j = 67 by omega) with q | rfl | rfl | rfl | rfl | rfl | rfl | rfl | rfl | rfl | rfl | rfl | rfl
  · rw [Ty8_low q]; exact HasTy.out
  · exact ty_ob0 h6 (fun q => by unfold bd7; split <;> decide)
  · exact ty_ob0 h45 (fun q => by unfold bd4; split; (· decide); split <;> decide)
  · exact ⟨fun q => absurd (show (2 : Nat) = 0 from q) (by decide), fun q => absurd (show (2 : Nat) = 1 from q) (by decide), fun _ => ⟨_, h46⟩, fun q => absurd (show (2 : Nat) = 3 from q) (by decide)⟩
  · exact HasTy.any h47
  · exact ty_ob0 h48 any0
  · exact ty_ob0 h49 any0
  · exact HasTy.any h50
  · exact ty_ob0 h51 (fun q => by unfold bd3; split <;> decide)
  · exact ⟨fun q => absurd (show (1 : Nat) = 0 from q) (by decide), fun _ => ⟨_, h64, fun _ => (show (0 : Int) ≤ (0 : Int32).toInt ∧ (0 : Int32).toInt ≤ 9 by decide)⟩, fun q => absurd (show (1 : Nat) = 2 from q) (by decide), fun q => absurd (show (1 : Nat) = 3 from q) (by decide)⟩
  · exact HasTy.any h65
  · exact HasTy.any h66
  · exact HasTy.any h67
theorem fresh_R9 {G : Gl} {ad : Nat → Nat} {E : Nat → va_E} (h : FreshM G ad E) : R9 G ad 98 0 ic0 md30 0 99999 (fun _ => 0) E := by
  have hc := h.cal
  obtain ⟨g68, g69, g70, g71, g72, g73, g74, g75, g76, g77, g78, g79, g80, g81, g82, g83, g84, g85, g86, g87, g88, g89, g90, g91, g92, g93, g94, g95, g96, g97⟩ := h
  refine ⟨⟨⟨im0, hc, fun q => ?_⟩, ⟨fun _ _ => rfl, fun j hj => ?_⟩, by decide, rfl, by decide⟩, _, _, _, g85, g86, g87, g88, fun j _ hq => absurd (show (0 : Int32).toInt = 1 ∨ (0 : Int32).toInt = 4 from hq) (by decide)⟩
  · by_cases q7 : q = 7 ∨ q = 16 ∨ q = 17 ∨ q = 18 ∨ q = 32 ∨ q = 35 ∨ q = 39 ∨ q = 41
    · rcases q7 with rfl | rfl | rfl | rfl | rfl | rfl | rfl | rfl <;> decide
    · unfold bdM
      repeat rw [if_neg (by omega)]
      exact ti_any _
  · by_cases q : j < 71 ∨ 98 ≤ j
    · rw [TyM_out q]; exact HasTy.out
    · rcases (show j = 71 ∨ j = 72 ∨ j = 73 ∨ j = 74 ∨ j = 75 ∨ j = 76 ∨ j = 77 ∨ j = 78 ∨ j = 79 ∨ j = 80 ∨ j = 81 ∨ j = 82 ∨ j = 83 ∨ j = 84 ∨ j = 85 ∨ j = 86 ∨ j = 87 ∨ j = 88 ∨ j = 89 ∨ j = 90 ∨ j = 91 ∨ j = 92 ∨ j = 93 ∨ j = 94 ∨ j = 95 ∨ j = 96 ∨ j = 97 by omega) with rfl | rfl | rfl | rfl | rfl | rfl | rfl | rfl | rfl | rfl | rfl | rfl | rfl | rfl | rfl | rfl | rfl | rfl | rfl | rfl | rfl | rfl | rfl | rfl | rfl | rfl | rfl
      · exact HasTy.any g71
      · exact ty_any0 g72 (by decide) (by decide)
      · exact ty_any0 g73 (by decide) (by decide)
      · exact ty_any0 g74 (by decide) (by decide)
      · exact HasTy.any g75
      · exact HasTy.any g76
      · exact HasTy.any g77
      · exact ty_any0 g78 (by decide) (by decide)
      · exact ⟨fun q => absurd (show (3 : Nat) = 0 from q) (by decide), fun q => absurd (show (3 : Nat) = 1 from q) (by decide), fun q => absurd (show (3 : Nat) = 2 from q) (by decide), fun _ => ⟨_, g79, fun _ => Or.inl rfl⟩⟩
      · exact HasTy.any g80
      · exact HasTy.any g81
      · exact ty_any0 g82 (by decide) (by decide)
      · exact HasTy.any g83
      · exact HasTy.any g84
      · exact HasTy.any g85
      · exact HasTy.any g86
      · exact HasTy.any g87
      · exact ty_any0 g88 (by decide) (by decide)
      · exact HasTy.any g89
      · exact HasTy.any g90
      · exact HasTy.any g91
      · exact HasTy.any g92
      · exact HasTy.any g93
      · exact HasTy.any g94
      · exact HasTy.any g95
      · exact HasTy.any g96
      · exact HasTy.any g97
