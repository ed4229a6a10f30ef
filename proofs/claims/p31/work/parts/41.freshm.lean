def im0 : Nat → Int32 := fun k => if k = 1 then 4 else if k = 2 then 100 else if k = 3 then 1 else if k = 4 then 7 else if k = 18 then 99999 else 0
theorem icm0 : icm im0 = ic0 := by
  funext k
  unfold icm
  by_cases h : k ≤ 8
  · rw [if_pos h]
    match k, h with
    | 0, _ => rfl
    | 1, _ => rfl
    | 2, _ => rfl
    | 3, _ => rfl
    | 4, _ => rfl
    | 5, _ => rfl
    | 6, _ => rfl
    | 7, _ => rfl
    | 8, _ => rfl
  · rw [if_neg h]
    unfold ic0
    rw [if_neg (by omega), if_neg (by omega), if_neg (by omega), if_neg (by omega)]
def FreshM (G : Gl) (ad : Nat → Nat) (E : Nat → va_E) : Prop := E 68 = ob 9 (rX9 ad) im0 ∧ E 69 = aI G 12 md30 ∧ E 70 = aI G 1201 (fun _ => 0) ∧ E 71 = aI G 5 (fun _ => 0) ∧ E 72 = aI G 40 (fun _ => 0) ∧ E 73 = aI G 40 (fun _ => 0) ∧ E 74 = aI G 40 (fun _ => 0) ∧ E 75 = aI G 40 (fun _ => 0) ∧ E 76 = aI G 40 (fun _ => 0) ∧ E 77 = aI G 40 (fun _ => 0) ∧ E 78 = aI G 5 (fun _ => 0) ∧ E 79 = aZ G 5 (fun _ => 0) ∧ E 80 = aI G 4005 (fun _ => 0) ∧ E 81 = aI G 4005 (fun _ => 0) ∧ E 82 = aI G 5 (fun _ => 0) ∧ E 83 = aI G 800 (fun _ => 0) ∧ E 84 = aI G 800 (fun _ => 0) ∧ E 85 = aI G 60 (fun _ => 0) ∧ E 86 = aI G 60 (fun _ => 0) ∧ E 87 = aI G 60 (fun _ => 0) ∧ E 88 = aI G 6 (fun _ => 0) ∧ E 89 = aI G 10 (fun _ => 0) ∧ E 90 = aI G 10 (fun _ => 0) ∧ E 91 = aI G 10 (fun _ => 0) ∧ E 92 = aI G 8 (fun _ => 0) ∧ E 93 = aI G 8 (fun _ => 0) ∧ E 94 = aI G 10 (fun _ => 0) ∧ E 95 = aI G 10 (fun _ => 0) ∧ E 96 = aI G 10 (fun _ => 0) ∧ E 97 = aI G 40000 (fun _ => 0)
theorem FreshM.cal {G : Gl} {ad : Nat → Nat} {E : Nat → va_E} (h : FreshM G ad E) : MCal G ad E im0 ic0 md30 := ⟨icm0, cal0, h.1, h.2.1, Or.inl rfl, _, h.2.2.1, rfl, fun q => absurd q (by decide)⟩
theorem FreshM.keep {G : Gl} {ad ad1 : Nat → Nat} {E E1 : Nat → va_E} (h : FreshM G ad E) (ha : ∀ j, j < 98 → ad1 j = ad j) (he : ∀ j, j < 98 → 68 ≤ j → E1 j = E j) : FreshM G ad1 E1 := by
  obtain ⟨g68, g69, g70, g71, g72, g73, g74, g75, g76, g77, g78, g79, g80, g81, g82, g83, g84, g85, g86, g87, g88, g89, g90, g91, g92, g93, g94, g95, g96, g97⟩ := h
  refine ⟨?_, (he 69 (by decide) (by decide)).trans g69, (he 70 (by decide) (by decide)).trans g70, (he 71 (by decide) (by decide)).trans g71, (he 72 (by decide) (by decide)).trans g72, (he 73 (by decide) (by decide)).trans g73, (he 74 (by decide) (by decide)).trans g74, (he 75 (by decide) (by decide)).trans g75, (he 76 (by decide) (by decide)).trans g76, (he 77 (by decide) (by decide)).trans g77, (he 78 (by decide) (by decide)).trans g78, (he 79 (by decide) (by decide)).trans g79, (he 80 (by decide) (by decide)).trans g80, (he 81 (by decide) (by decide)).trans g81, (he 82 (by decide) (by decide)).trans g82, (he 83 (by decide) (by decide)).trans g83, (he 84 (by decide) (by decide)).trans g84, (he 85 (by decide) (by decide)).trans g85, (he 86 (by decide) (by decide)).trans g86, (he 87 (by decide) (by decide)).trans g87, (he 88 (by decide) (by decide)).trans g88, (he 89 (by decide) (by decide)).trans g89, (he 90 (by decide) (by decide)).trans g90, (he 91 (by decide) (by decide)).trans g91, (he 92 (by decide) (by decide)).trans g92, (he 93 (by decide) (by decide)).trans g93, (he 94 (by decide) (by decide)).trans g94, (he 95 (by decide) (by decide)).trans g95, (he 96 (by decide) (by decide)).trans g96, (he 97 (by decide) (by decide)).trans g97⟩
  rw [he 68 (by decide) (by decide), g68]
  unfold rX9
  rw [rfs_new (n := 98) ha (by decide)]
