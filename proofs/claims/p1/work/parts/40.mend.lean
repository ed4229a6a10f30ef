set_option maxRecDepth 20000 in
theorem c_fit0 (l : Launch) (G : Gl) (n : Nat) (ad : Nat → Nat) (E : Nat → va_E) (b : Nat) (hb : b + 6 ≤ n) {ip kd : Nat → Int32} (hEb : E b = ob 5 (rP ad b) ip) (hEb5 : E (b + 5) = aI G 8 kd) (h6 : (ip 6).toInt = 0)  : CtV l G yX5_fit cX5_fit 2 0 0 n ad E [.ref (ad b)] (fun E' => ∃ ip2 : Nat → Int32, E' b = ob 5 (rP ad b) ip2 ∧ (ip2 6).toInt = 0 ∧ (ip2 7).toInt = 0 ∧ ∀ j, j ≠ b → E' j = E j) := by
  refine CtV.of (by decide) (Nat.le_of_ble_eq_true rfl) (fun X A C => ?_)
  refine v_sub (lv' := [(0, .ref (ad b))]) [0] rfl ?_
  refine v_aload_n C 0 dX5_fit_0 rfl rfl ?_
  refine v_iconst (v := 0) C dX5_fit_1 (by decide) ?_
  refine v_puti C b dX5_fit_2 fX5_38 (by omega) hEb rfl rfl rfl rfl (fun E1 hE1_b oE1 => ?_)
  have hE1_b5 := (oE1 (b + 5) (by omega)).trans hEb5
  refine v_iconst (v := 0) C dX5_fit_5 (by decide) ?_
  refine v_istore_n (lv' := [(0, .ref (ad b)), (1, .int 0)]) C [1, 0] dX5_fit_6 rfl (by decide) rfl ?_
  refine v_iload_n C 1 dX5_fit_7 rfl rfl ?_
  refine v_aload_n C 0 dX5_fit_8 rfl rfl ?_
  refine v_geti (v := ip 6) C b dX5_fit_9 fX5_27 (by omega) hE1_b rfl rfl ?_
  refine b_icmp_ge C 68 dX5_fit_12 (by decide) (show (0 : Int32).toInt = 0 by decide) h6 (fun c2 => ?_) (fun c2 => by exfalso; omega)
  refine v_aload_n C 0 dX5_fit_68 rfl rfl ?_
  refine v_aload_n C 0 dX5_fit_69 rfl rfl ?_
  refine v_geti (v := 0) C b dX5_fit_70 fX5_38 (by omega) hE1_b rfl rfl ?_
  refine v_iconst (v := 1) C dX5_fit_73 (by decide) ?_
  refine b_icmp_ne C 81 dX5_fit_74 (by decide) (show (0 : Int32).toInt = 0 by decide) (show (1 : Int32).toInt = 1 by decide) (fun c3 => ?_) (fun c3 => absurd c3 (by decide))
  refine v_aload_n C 0 dX5_fit_81 rfl rfl ?_
  refine v_geti (v := ip 6) C b dX5_fit_82 fX5_27 (by omega) hE1_b rfl rfl ?_
  refine v_puti C b dX5_fit_85 fX5_45 (by omega) hE1_b rfl rfl rfl rfl (fun E4 hE4_b oE4 => ?_)
  have hE4_b5 := (oE4 (b + 5) (by omega)).trans hE1_b5
  refine v_aload_n C 0 dX5_fit_88 rfl rfl ?_
  refine v_aload_n C 0 dX5_fit_89 rfl rfl ?_
  refine v_getr C b dX5_fit_90 fX5_24 (by omega) hE4_b rfl rfl ?_
  refine v_iconst (v := 0) C dX5_fit_93 (by decide) ?_
  refine v_ald (v := kd 0) C (b + 5) dX5_fit_94 (by omega) hE4_b5 (ti_in (show (0 : Int32).toInt = 0 by decide) (by omega) (by omega)) (congrArg kd (by decide)) ?_
  refine v_puti C b dX5_fit_95 fX5_48 (by omega) hE4_b rfl rfl rfl rfl (fun E5 hE5_b oE5 => ?_)
  have hE5_b5 := (oE5 (b + 5) (by omega)).trans hE4_b5
  exact v_vret C dX5_fit_98 rfl ⟨_, hE5_b, h6, h6, fun j h0 => ((oE5 j h0).trans ((oE4 j h0).trans (oE1 j h0)))⟩

set_option maxRecDepth 20000 in
theorem c_copy0 (l : Launch) (G : Gl) (n : Nat) (ad : Nat → Nat) (E : Nat → va_E) (b c : Nat) (hb : b + 6 ≤ n) (hc : c < n) (hbc : c < b) {ip iq kd : Nat → Int32} (hEb : E b = ob 5 (rP ad b) ip) (hEb5 : E (b + 5) = aI G 8 kd) {rc : Nat → Option Nat} (hEc : E c = ob 5 rc iq) (hc6 : (iq 6).toInt = 0)  : CtV l G yX5_copyFrom cX5_copyFrom 3 1 21 n ad E [.ref (ad b), .ref (ad c)] (fun E' => ∃ ip2 : Nat → Int32, E' b = ob 5 (rP ad b) ip2 ∧ (ip2 6).toInt = 0 ∧ (ip2 7).toInt = 0 ∧ ∀ j, j ≠ b → E' j = E j) := by
  refine CtV.of (by decide) (Nat.le_of_ble_eq_true rfl) (fun X A C => ?_)
  refine v_sub (lv' := [(0, .ref (ad b)), (1, .ref (ad c))]) [0, 1] rfl ?_
  refine v_aload_n C 0 dX5_copyFrom_0 rfl rfl ?_
  refine v_aload_n C 1 dX5_copyFrom_1 rfl rfl ?_
  refine v_geti (v := iq 6) C c dX5_copyFrom_2 fX5_27 (by omega) hEc rfl rfl ?_
  refine v_puti C b dX5_copyFrom_5 fX5_27 (by omega) hEb rfl rfl rfl rfl (fun E1 hE1_b oE1 => ?_)
  have hE1_b5 := (oE1 (b + 5) (by omega)).trans hEb5
  have hE1_c := (oE1 c (by omega)).trans hEc
  refine v_iconst (v := 0) C dX5_copyFrom_8 (by decide) ?_
  refine v_istore_n (lv' := [(0, .ref (ad b)), (1, .ref (ad c)), (2, .int 0)]) C [1, 2, 0] dX5_copyFrom_9 rfl (by decide) rfl ?_
  refine v_iload_n C 2 dX5_copyFrom_10 rfl rfl ?_
  refine v_aload_n C 0 dX5_copyFrom_11 rfl rfl ?_
  refine v_geti (v := iq 6) C b dX5_copyFrom_12 fX5_27 (by omega) hE1_b rfl rfl ?_
  refine b_icmp_ge C 60 dX5_copyFrom_15 (by decide) (show (0 : Int32).toInt = 0 by decide) hc6 (fun c2 => ?_) (fun c2 => by exfalso; omega)
  refine v_aload_n C 0 dX5_copyFrom_60 rfl rfl ?_
  refine v_cVv C dX5_copyFrom_61 lX5_31 mX5_fit b (by omega) hE1_b (by decide) rfl (c_fit0 l G n ad _ b hb hE1_b hE1_b5 hc6) ⟨by decide, by decide⟩ rfl (Nat.le_of_ble_eq_true rfl) ⟨Nat.zero_le _, Nat.zero_le _⟩ (fun E3 hq4 => ?_)
  obtain ⟨ip2, g0, g6, g7, gO⟩ := hq4
  exact v_vret C dX5_copyFrom_64 rfl ⟨ip2, g0, g6, g7, fun j h0 => ((gO j h0).trans (oE1 j h0))⟩

set_option maxRecDepth 20000 in
theorem c_hear (l : Launch) (G : Gl) (n : Nat) (ad : Nat → Nat) (E : Nat → va_E) (hM : 68 ≤ n) {ih : Nat → Int32} (hE48 : E 48 = ob 1 (rfs ad [1, 6, 49, 45]) ih) (x y v : Int32)  : CtV l G yX1_hear cX1_hear 4 0 0 n ad E [.ref (ad 48), .int x, .int y, .int v] (fun E' => ∃ ih2 : Nat → Int32, E' 48 = ob 1 (rfs ad [1, 6, 49, 45]) ih2 ∧ ∀ j, j ≠ 48 → E' j = E j) := by
  refine CtV.of (by decide) (Nat.le_of_ble_eq_true rfl) (fun X A C => ?_)
  refine v_sub (lv' := [(0, .ref (ad 48)), (1, .int x), (2, .int y), (3, .int v)]) [0, 1, 2, 3] rfl ?_
  refine v_aload_n C 0 dX1_hear_0 rfl rfl ?_
  refine v_iload_n C 1 dX1_hear_1 rfl rfl ?_
  refine v_puti C 48 dX1_hear_2 fX1_32 (by omega) hE48 rfl rfl rfl rfl (fun E1 hE1_48 oE1 => ?_)
  refine v_aload_n C 0 dX1_hear_5 rfl rfl ?_
  refine v_iload_n C 2 dX1_hear_6 rfl rfl ?_
  refine v_puti C 48 dX1_hear_7 fX1_36 (by omega) hE1_48 rfl rfl rfl rfl (fun E2 hE2_48 oE2 => ?_)
  refine v_aload_n C 0 dX1_hear_10 rfl rfl ?_
  refine v_iload_n C 3 dX1_hear_11 rfl rfl ?_
  refine v_puti C 48 dX1_hear_12 fX1_39 (by omega) hE2_48 rfl rfl rfl rfl (fun E3 hE3_48 oE3 => ?_)
  exact v_vret C dX1_hear_15 rfl ⟨_, hE3_48, fun j h0 => ((oE3 j h0).trans ((oE2 j h0).trans (oE1 j h0)))⟩

set_option maxRecDepth 20000 in
theorem c_isRight0 (l : Launch) (G : Gl) (n : Nat) (ad : Nat → Nat) (E : Nat → va_E) (hM : 68 ≤ n) {ip : Nat → Int32} {rc : Nat → Option Nat} (hE52 : E 52 = ob 5 rc ip) (h7 : (ip 7).toInt = 0)  : CtI l G yX1_isRight cX1_isRight 4 .boolean 0 0 n ad E [.ref (ad 48), .ref (ad 52)] (fun r E' => (r = 0) ∧ E = E') := by
  refine CtI.of (by decide) (Nat.le_of_ble_eq_true rfl) (fun X A C => ?_)
  refine v_sub (lv' := [(0, .ref (ad 48)), (1, .ref (ad 52))]) [0, 1] rfl ?_
  refine v_aload_n C 1 dX1_isRight_0 rfl rfl ?_
  refine v_geti (v := ip 7) C 52 dX1_isRight_1 fX1_96 (by omega) hE52 rfl rfl ?_
  refine v_iconst (v := (-1)) C dX1_isRight_4 (by decide) ?_
  refine b_icmp_eq C 10 dX1_isRight_5 (by decide) h7 (show ((-1) : Int32).toInt = (-1) by decide) (fun c1 => by exfalso; omega) (fun c1 => ?_)
  refine v_iconst (v := 0) C dX1_isRight_8 (by decide) ?_
  exact v_ret C dX1_isRight_9 rfl rfl ⟨rfl, rfl⟩

set_option maxRecDepth 20000 in
theorem c_listEdits0 (l : Launch) (G : Gl) (n : Nat) (ad : Nat → Nat) (E : Nat → va_E) (hM : 68 ≤ n) (c : Nat) (hc : c < 51) {ix iq : Nat → Int32} (hE51 : E 51 = ob 3 (rfs ad [6, 48, 52, 58, 64, 65, 66, 67]) ix) {rc : Nat → Option Nat} (hEc : E c = ob 5 rc iq) (hc6 : (iq 6).toInt = 0)  : CtV l G yX3_listEdits cX3_listEdits 5 0 0 n ad E [.ref (ad 51), .ref (ad c)] (fun E' => E' 51 = ob 3 (rfs ad [6, 48, 52, 58, 64, 65, 66, 67]) (va_up ix 8 0) ∧ ∀ j, j ≠ 51 → E' j = E j) := by
  refine CtV.of (by decide) (Nat.le_of_ble_eq_true rfl) (fun X A C => ?_)
  refine v_sub (lv' := [(0, .ref (ad 51)), (1, .ref (ad c))]) [0, 1] rfl ?_
  refine v_aload_n C 0 dX3_listEdits_0 rfl rfl ?_
  refine v_iconst (v := 0) C dX3_listEdits_1 (by decide) ?_
  refine v_puti C 51 dX3_listEdits_2 fX3_72 (by omega) hE51 rfl rfl rfl rfl (fun E1 hE1_51 oE1 => ?_)
  have hE1_c := (oE1 c (by omega)).trans hEc
  refine v_iconst (v := 0) C dX3_listEdits_5 (by decide) ?_
  refine v_istore_n (lv' := [(0, .ref (ad 51)), (1, .ref (ad c)), (2, .int 0)]) C [1, 2, 0] dX3_listEdits_6 rfl (by decide) rfl ?_
  refine v_iload_n C 2 dX3_listEdits_7 rfl rfl ?_
  refine v_aload_n C 1 dX3_listEdits_8 rfl rfl ?_
  refine v_geti (v := iq 6) C c dX3_listEdits_9 fX3_99 (by omega) hE1_c rfl rfl ?_
  refine b_icmp_ge C 191 dX3_listEdits_12 (by decide) (show (0 : Int32).toInt = 0 by decide) hc6 (fun c2 => ?_) (fun c2 => by exfalso; omega)
  exact v_vret C dX3_listEdits_191 rfl ⟨hE1_51, oE1⟩

set_option maxRecDepth 20000 in
theorem c_search0 (l : Launch) (G : Gl) (n : Nat) (ad : Nat → Nat) (E : Nat → va_E) (hM : 68 ≤ n) (c : Nat) (hc : c < 45) {ix ih iq ip kd ic : Nat → Int32} (hE51 : E 51 = ob 3 (rfs ad [6, 48, 52, 58, 64, 65, 66, 67]) ix) (hE48 : E 48 = ob 1 (rfs ad [1, 6, 49, 45]) ih) (hE45 : E 45 = ob 4 (rfs ad [46, 47]) iq) (hE52 : E 52 = ob 5 (rP ad 52) ip) (hE57 : E (52 + 5) = aI G 8 kd) {rc : Nat → Option Nat} (hEc : E c = ob 5 rc ic) (hc6 : (ic 6).toInt = 0) (hF58 : PgW G ad 58 E 0)  : CtI l G yX3_search cX3_search 4 .int 4 88 n ad E [.ref (ad 51), .ref (ad c)] (fun r E' => r.toInt = -1 ∧ Fr8 E E') := by
  refine CtI.of (by decide) (Nat.le_of_ble_eq_true rfl) (fun X A C => ?_)
  refine v_sub (lv' := [(0, .ref (ad 51)), (1, .ref (ad c))]) [0, 1] rfl ?_
  refine v_aload_n C 0 dX3_search_0 rfl rfl ?_
  refine v_getr C 51 dX3_search_1 fX3_38 (by omega) hE51 rfl rfl ?_
  refine v_aload_n C 0 dX3_search_4 rfl rfl ?_
  refine v_getr C 51 dX3_search_5 fX3_38 (by omega) hE51 rfl rfl ?_
  refine v_getr C 48 dX3_search_8 fX3_42 (by omega) hE48 rfl rfl ?_
  refine v_geti (v := iq 3) C 45 dX3_search_11 fX3_48 (by omega) hE45 rfl rfl ?_
  refine v_puti C 48 dX3_search_14 fX3_54 (by omega) hE48 rfl rfl rfl rfl (fun E1 hE1_48 oE1 => ?_)
  have hE1_51 := (oE1 51 (by decide)).trans hE51
  have hE1_45 := (oE1 45 (by decide)).trans hE45
  have hE1_52 := (oE1 52 (by decide)).trans hE52
  have hE1_57 := (oE1 57 (by decide)).trans hE57
  have hE1_c := (oE1 c (by omega)).trans hEc
  refine v_aload_n C 0 dX3_search_17 rfl rfl ?_
  refine v_getr C 51 dX3_search_18 fX3_12 (by omega) hE1_51 rfl rfl ?_
  refine v_aload_n C 1 dX3_search_21 rfl rfl ?_
  refine v_cVv C dX3_search_22 lX3_57 mX5_copyFrom 52 (by omega) hE1_52 (by decide) rfl (c_copy0 l G n ad _ 52 c (by omega) (by omega) (by omega) hE1_52 hE1_57 hE1_c hc6) ⟨by decide, by decide⟩ rfl (Nat.le_of_ble_eq_true rfl) ⟨Nat.zero_le _, Nat.zero_le _⟩ (fun E2 hq3 => ?_)
  obtain ⟨ip2, g0, g6, g7, gO⟩ := hq3
  have hE2_51 := (gO 51 (by decide)).trans hE1_51
  have hE2_48 := (gO 48 (by decide)).trans hE1_48
  have hE2_45 := (gO 45 (by decide)).trans hE1_45
  have hE2_57 := (gO 57 (by decide)).trans hE1_57
  have hE2_c := (gO c (by omega)).trans hE1_c
  refine v_aload_n C 0 dX3_search_25 rfl rfl ?_
  refine v_aload_n C 1 dX3_search_26 rfl rfl ?_
  refine v_cVv C dX3_search_27 lX3_61 mX3_listEdits 51 (by omega) hE2_51 (by decide) rfl (c_listEdits0 l G n ad _ hM c (by omega) hE2_51 hE2_c hc6) ⟨by decide, by decide⟩ rfl (Nat.le_of_ble_eq_true rfl) ⟨Nat.zero_le _, Nat.zero_le _⟩ (fun E4 hq5 => ?_)
  obtain ⟨e51, eO⟩ := hq5
  have hE4_48 := (eO 48 (by decide)).trans hE2_48
  have hE4_45 := (eO 45 (by decide)).trans hE2_45
  have hE4_52 := (eO 52 (by decide)).trans g0
  have hE4_57 := (eO 57 (by decide)).trans hE2_57
  have hE4_c := (eO c (by omega)).trans hE2_c
  refine v_aload_n C 0 dX3_search_30 rfl rfl ?_
  refine v_getr C 51 dX3_search_31 fX3_38 (by omega) e51 rfl rfl ?_
  refine v_aload_n C 0 dX3_search_34 rfl rfl ?_
  refine v_getr C 51 dX3_search_35 fX3_12 (by omega) e51 rfl rfl ?_
  refine v_cVp C dX3_search_38 lX3_64 mX1_isRight 48 (by omega) hE4_48 (by decide) rfl (c_isRight0 l G n ad _ hM hE4_52 g7) ⟨by decide, by decide⟩ rfl (Nat.le_of_ble_eq_true rfl) ⟨Nat.zero_le _, Nat.zero_le _⟩ (fun r6 hp7 => ?_)
  subst hp7
  refine b_if_eq C 50 dX3_search_41 (by decide) (show (0 : Int32).toInt = 0 by decide) (fun c8 => ?_) (fun c8 => absurd c8 (by decide))
  refine v_iconst (v := 0) C dX3_search_50 (by decide) ?_
  refine v_istore_n (lv' := [(0, .ref (ad 51)), (1, .ref (ad c)), (2, .int 0)]) C [1, 2, 0] dX3_search_51 rfl (by decide) rfl ?_
  refine v_iload_n C 2 dX3_search_52 rfl rfl ?_
  refine v_aload_n C 0 dX3_search_53 rfl rfl ?_
  refine v_geti (v := 0) C 51 dX3_search_54 fX3_72 (by omega) e51 rfl rfl ?_
  refine b_icmp_ge C 97 dX3_search_57 (by decide) (show (0 : Int32).toInt = 0 by decide) (show (0 : Int32).toInt = 0 by decide) (fun c9 => ?_) (fun c9 => absurd c9 (by decide))
  refine v_iconst (v := 0) C dX3_search_97 (by decide) ?_
  refine v_istore_n (lv' := [(0, .ref (ad 51)), (1, .ref (ad c)), (2, .int 0)]) C [1, 2, 0] dX3_search_98 rfl (by decide) rfl ?_
  refine v_iload_n C 2 dX3_search_99 rfl rfl ?_
  refine v_aload_n C 0 dX3_search_100 rfl rfl ?_
  refine v_geti (v := 0) C 51 dX3_search_101 fX3_72 (by omega) e51 rfl rfl ?_
  refine b_icmp_ge C 191 dX3_search_104 (by decide) (show (0 : Int32).toInt = 0 by decide) (show (0 : Int32).toInt = 0 by decide) (fun c10 => ?_) (fun c10 => absurd c10 (by decide))
  refine v_aload_n C 0 dX3_search_191 rfl rfl ?_
  refine v_getr C 51 dX3_search_192 fX3_18 (by omega) e51 rfl rfl ?_
  have hWf : PgW G ad 58 E4 0 := hF58.keep (fun j h1 h2 => ((eO j (by omega)).trans ((gO j (by omega)).trans (oE1 j (by omega)))))
  obtain ⟨if_, _, _, _, _, _, hf58, _⟩ := id hWf
  refine v_cVv C dX3_search_195 lX3_83 mX5_empty 58 (by omega) hf58 (by decide) rfl (c_empty l G n ad _ 58 (by omega) hWf (by decide) (by decide)) ⟨by decide, by decide⟩ rfl (Nat.le_of_ble_eq_true rfl) ⟨Nat.zero_le _, Nat.zero_le _⟩ (fun E11 hq12 => ?_)
  obtain ⟨_, hO6⟩ := hq12
  refine v_iconst (v := (-1)) C dX3_search_198 (by decide) ?_
  exact v_ret C dX3_search_199 rfl rfl ⟨by decide, fun j hj => ((hO6 j (by omega)).trans ((eO j (by omega)).trans ((gO j (by omega)).trans (oE1 j (by omega)))))⟩

set_option maxRecDepth 20000 in
theorem e_mend (l : Launch) (G : Gl) (n : Nat) (ad : Nat → Nat) (E : Nat → va_E) (hN : 52 ≤ n) {io iz : Nat → Int32} (hE0 : E 0 = ob 8 (rfs ad [1, 6, 8, 48, 45, 51]) io) (hE6 : E 6 = ob 7 (rfs ad [7]) iz) (hz : (iz 1).toInt = 0) {iq lq : Nat → Int32} {mk : Nat → Int64} (hE45 : E 45 = ob 4 (rfs ad [46, 47]) iq) (h5 : (iq 5).toInt = 0) (hE46 : E 46 = aJ G 31251 mk) (hE47 : E 47 = aI G 26002 lq) {ic md ms ld ys : Nat → Int32} (hE1 : E 1 = ob 0 (rfs ad [2, 3, 4, 5]) ic) (hE2 : E 2 = aI G 12 md) (hE3 : E 3 = aI G 12 ms) (hE4 : E 4 = aI G 100 ld) (hE5 : E 5 = aI G 101 ys) (hP : CalP ic md) (hF : CalF ic md ms ld ys) {fp : Nat → Option Nat} (hE8 : E 8 = aQ G 4 6 fp) (hfp : ∀ i, i < 6 → fp i = some (ad (9 + 6 * i))) (hPr : ∀ i, i < 6 → E (9 + 6 * i) = ob 5 (rP ad (9 + 6 * i)) ip0) (hM : 68 ≤ n) {ix ih ip kd : Nat → Int32} (hE51 : E 51 = ob 3 (rfs ad [6, 48, 52, 58, 64, 65, 66, 67]) ix) (hE48 : E 48 = ob 1 (rfs ad [1, 6, 49, 45]) ih) (hE52 : E 52 = ob 5 (rP ad 52) ip) (hE57 : E (52 + 5) = aI G 8 kd) (hF58 : PgW G ad 58 E 0) (p : Int32) (w : Int32) (v : Int32) (a : Int32) (m : Int32)  : CtI l G yX8_mend cX8_mend 8 .int 5 111 n ad E [.ref (ad 0), .int p, .int w, .int v, .int a, .int m] (fun r E' => (r.toInt = if okPr p.toInt ∧ okLaw w.toInt v.toInt ∧ okRch a.toInt m.toInt 100000 then -6 else -1) ∧ Fr8 E E') := by
  refine CtI.of (by decide) (Nat.le_of_ble_eq_true rfl) (fun X A C => ?_)
  refine v_sub (lv' := [(0, .ref (ad 0)), (1, .int p), (2, .int w), (3, .int v), (4, .int a), (5, .int m)]) [0, 1, 2, 3, 4, 5] rfl ?_
  refine v_aload_n C 0 dX8_mend_0 rfl rfl ?_
  refine v_iload_n C 1 dX8_mend_1 rfl rfl ?_
  refine v_cVr C dX8_mend_2 lX8_177 mX8_programAt 0 (by omega) hE0 (by decide) rfl (c_programAt l G n ad _ hN hE0 hE8 hfp p) ⟨by decide, by decide⟩ rfl (Nat.le_of_ble_eq_true rfl) ⟨Nat.zero_le _, Nat.zero_le _⟩ (fun r1 hp2 => ?_)
  unfold okPr at hp2
  rcases hp2 with ⟨hno, rfl⟩ | ⟨hyes, i, hi, hpi, rfl⟩
  · refine v_astoreN (lv' := [(0, .ref (ad 0)), (1, .int p), (2, .int w), (3, .int v), (4, .int a), (5, .int m), (6, .null)]) C [1, 2, 3, 4, 5, 6, 0] dX8_mend_5 (by decide) rfl ?_
    refine v_aloadN C 6 dX8_mend_7 rfl ?_
    refine v_ifnullN C 33 dX8_mend_9 (by decide) ?_
    refine v_iconst (v := (-1)) C dX8_mend_33 (by decide) ?_
    exact v_ret C dX8_mend_34 rfl rfl ⟨(show _ by rw [show ((-1) : Int32).toInt = (-1) by decide]; unfold okPr okLaw okRch; (repeat first | rw [if_pos (by omega)] | rw [if_neg (by omega)]); try omega), (fun j hj => rfl)⟩
  · have hPi := hPr i hi
    refine v_astore (lv' := [(0, .ref (ad 0)), (1, .int p), (2, .int w), (3, .int v), (4, .int a), (5, .int m), (6, .ref (ad (9 + 6 * i)))]) C [1, 2, 3, 4, 5, 6, 0] dX8_mend_5 (by decide) rfl ?_
    refine v_aload C 6 dX8_mend_7 rfl ?_
    refine v_ifnull C dX8_mend_9 ?_
    refine v_aload_n C 0 dX8_mend_12 rfl rfl ?_
    refine v_iload_n C 2 dX8_mend_13 rfl rfl ?_
    refine v_iload_n C 3 dX8_mend_14 rfl rfl ?_
    refine v_cVp C dX8_mend_15 lX8_219 mX8_isLaw 0 (by omega) hE0 (by decide) rfl (c_isLaw0 l G n ad _ hN hE0 hE6 hz w v) ⟨by decide, by decide⟩ rfl (Nat.le_of_ble_eq_true rfl) ⟨Nat.zero_le _, Nat.zero_le _⟩ (fun r3 hp4 => ?_)
    unfold okLaw at hp4
    rcases hp4 with ⟨rfl, hp4⟩ | ⟨rfl, hp4⟩
    · refine b_if_eq C 33 dX8_mend_18 (by decide) (show (1 : Int32).toInt = 1 by decide) (fun c5 => absurd c5 (by decide)) (fun c5 => ?_)
      refine v_iload C 4 dX8_mend_21 rfl ?_
      refine v_iload C 5 dX8_mend_23 rfl ?_
      refine v_ldc C dX8_mend_25 kX8_251 ?_
      refine v_cSp C dX8_mend_27 lX8_244 mX8_isReach (c_isReach l G n ad _  a m 100000 (by decide)) ⟨by decide, by decide⟩ rfl (Nat.le_of_ble_eq_true rfl) ⟨Nat.zero_le _, Nat.zero_le _⟩ (fun r6 hp7 => ?_)
      rw [(show (100000 : Int32).toInt = 100000 by decide)] at hp7
      unfold okRch at hp7
      rcases hp7 with ⟨rfl, hp7⟩ | ⟨rfl, hp7⟩
      · refine b_if_ne C 35 dX8_mend_30 (by decide) (show (1 : Int32).toInt = 1 by decide) (fun c8 => ?_) (fun c8 => absurd c8 (by decide))
        refine v_aload_n C 0 dX8_mend_35 rfl rfl ?_
        refine v_iload C 4 dX8_mend_36 rfl ?_
        refine v_iload C 4 dX8_mend_38 rfl ?_
        refine v_iload C 5 dX8_mend_40 rfl ?_
        refine v_iadd C dX8_mend_42 ?_
        refine v_top (fun x9 ex9 => ?_)
        have hx9 : x9.toInt = (a.toInt + m.toInt) := by rw [ex9]; exact ti_add (rfl : Int32.toInt a = _) (rfl : Int32.toInt m = _) (by omega) (by omega)
        refine v_cVv C dX8_mend_43 lX8_233 mX8_gatherOdds 0 (by omega) hE0 (by decide) rfl (c_gatherOdds0 l G n ad _ hN hE0 hE6 hz hE45 h5 hE46 hE47 hE1 hE2 hE3 hE4 hE5 hP hF a x9 (fa := a.toInt.toNat) (D := m.toInt.toNat) (by rw [(rfl : Int32.toInt a = _)]; omega) (by rw [hx9]; omega) (by omega) (by omega)) ⟨by decide, by decide⟩ rfl (Nat.le_of_ble_eq_true rfl) ⟨Nat.zero_le _, Nat.zero_le _⟩ (fun E10 hq11 => ?_)
        obtain ⟨iq2, lq2, g45, gc, g47, g0, g1, gO⟩ := hq11
        have hE10_0 := (gO 0 (by decide) (by decide) (by decide)).trans hE0
        have hE10_6 := (gO 6 (by decide) (by decide) (by decide)).trans hE6
        have hE10_8 := (gO 8 (by decide) (by decide) (by decide)).trans hE8
        have hE10_1 := (gO 1 (by decide) (by decide) (by decide)).trans hE1
        have hE10_2 := (gO 2 (by decide) (by decide) (by decide)).trans hE2
        have hE10_3 := (gO 3 (by decide) (by decide) (by decide)).trans hE3
        have hE10_4 := (gO 4 (by decide) (by decide) (by decide)).trans hE4
        have hE10_5 := (gO 5 (by decide) (by decide) (by decide)).trans hE5
        have hE10_51 := (gO 51 (by decide) (by decide) (by decide)).trans hE51
        have hE10_48 := (gO 48 (by decide) (by decide) (by decide)).trans hE48
        have hE10_52 := (gO 52 (by decide) (by decide) (by decide)).trans hE52
        have hE10_57 := (gO 57 (by decide) (by decide) (by decide)).trans hE57
        have hE10_96i := (gO (9 + 6 * i) (by omega) (by omega) (by omega)).trans hPi
        refine v_aload_n C 0 dX8_mend_46 rfl rfl ?_
        refine v_getr C 0 dX8_mend_47 fX8_42 (by omega) hE10_0 rfl rfl ?_
        refine v_iload_n C 2 dX8_mend_50 rfl rfl ?_
        refine v_bipush (v := 10) C dX8_mend_51 (by decide) ?_
        refine v_irem C dX8_mend_53 (by decide) ?_
        refine v_top (fun x12 ex12 => ?_)
        have hx12 : x12.toInt = (w.toInt % 10) := by rw [ex12]; exact ti_rem (rfl : Int32.toInt w = _) (show (10 : Int32).toInt = 10 by decide) (by omega) (by omega)
        refine v_iload_n C 2 dX8_mend_54 rfl rfl ?_
        refine v_bipush (v := 10) C dX8_mend_55 (by decide) ?_
        refine v_idiv C dX8_mend_57 (by decide) ?_
        refine v_top (fun x13 ex13 => ?_)
        have hx13 : x13.toInt = (w.toInt / 10) := by rw [ex13]; exact ti_div (rfl : Int32.toInt w = _) (show (10 : Int32).toInt = 10 by decide) (by omega) (by omega)
        refine v_iload_n C 3 dX8_mend_58 rfl rfl ?_
        refine v_cVv C dX8_mend_59 lX8_223 mX1_hear 48 (by omega) hE10_48 (by decide) rfl (c_hear l G n ad _ hM hE10_48 x12 x13 v) ⟨by decide, by decide⟩ rfl (Nat.le_of_ble_eq_true rfl) ⟨Nat.zero_le _, Nat.zero_le _⟩ (fun E14 hq15 => ?_)
        obtain ⟨ih2, e48, hO8⟩ := hq15
        have hE14_0 := (hO8 0 (by decide)).trans hE10_0
        have hE14_6 := (hO8 6 (by decide)).trans hE10_6
        have hE14_8 := (hO8 8 (by decide)).trans hE10_8
        have hE14_1 := (hO8 1 (by decide)).trans hE10_1
        have hE14_2 := (hO8 2 (by decide)).trans hE10_2
        have hE14_3 := (hO8 3 (by decide)).trans hE10_3
        have hE14_4 := (hO8 4 (by decide)).trans hE10_4
        have hE14_5 := (hO8 5 (by decide)).trans hE10_5
        have hE14_45 := (hO8 45 (by decide)).trans g45
        have hE14_51 := (hO8 51 (by decide)).trans hE10_51
        have hE14_52 := (hO8 52 (by decide)).trans hE10_52
        have hE14_57 := (hO8 57 (by decide)).trans hE10_57
        have hE14_96i := (hO8 (9 + 6 * i) (by omega)).trans hE10_96i
        have hE14_47 := (hO8 47 (by decide)).trans g47
        refine v_aload_n C 0 dX8_mend_62 rfl rfl ?_
        refine v_getr C 0 dX8_mend_63 fX8_51 (by omega) hE14_0 rfl rfl ?_
        refine v_aload C 6 dX8_mend_66 rfl ?_
        have hWf : PgW G ad 58 E14 0 := hF58.keep (fun j h1 h2 => ((hO8 j (by omega)).trans (gO j (by omega) (by omega) (by omega))))
        refine v_cVi C dX8_mend_68 lX8_252 mX3_search 51 (by omega) hE14_51 (by decide) rfl (c_search0 l G n ad _ hM (9 + 6 * i) (by omega) hE14_51 e48 hE14_45 hE14_52 hE14_57 hE14_96i (show (ip0 6).toInt = 0 by decide) hWf) ⟨by decide, by decide⟩ rfl (Nat.le_of_ble_eq_true rfl) ⟨Nat.zero_le _, Nat.zero_le _⟩ (fun r17 E16 hq18 => ?_)
        obtain ⟨hp19, hO9⟩ := hq18
        refine v_istore (lv' := [(0, .ref (ad 0)), (1, .int p), (2, .int w), (3, .int v), (4, .int a), (5, .int m), (6, .ref (ad (9 + 6 * i))), (7, .int r17)]) C [1, 2, 3, 4, 5, 6, 7, 0] dX8_mend_71 (by decide) rfl ?_
        refine v_iload C 7 dX8_mend_73 rfl ?_
        refine v_iconst (v := (-1)) C dX8_mend_75 (by decide) ?_
        refine b_icmp_ne C 84 dX8_mend_76 (by decide) hp19 (show ((-1) : Int32).toInt = (-1) by decide) (fun c20 => by exfalso; omega) (fun c20 => ?_)
        refine v_bipush (v := (-6)) C dX8_mend_79 (by decide) ?_
        refine v_goto C 86 dX8_mend_81 (by decide) ?_
        exact v_ret C dX8_mend_86 rfl rfl ⟨(show _ by rw [show ((-6) : Int32).toInt = (-6) by decide]; unfold okPr okLaw okRch; (repeat first | rw [if_pos (by omega)] | rw [if_neg (by omega)]); try omega), (fun j hj => ((hO9 j hj).trans ((hO8 j (by omega)).trans (gO j (by omega) (by omega) (by omega)))))⟩
      · refine b_if_ne C 35 dX8_mend_30 (by decide) (show (0 : Int32).toInt = 0 by decide) (fun c21 => absurd c21 (by decide)) (fun c21 => ?_)
        refine v_iconst (v := (-1)) C dX8_mend_33 (by decide) ?_
        exact v_ret C dX8_mend_34 rfl rfl ⟨(show _ by rw [show ((-1) : Int32).toInt = (-1) by decide]; unfold okPr okLaw okRch; (repeat first | rw [if_pos (by omega)] | rw [if_neg (by omega)]); try omega), (fun j hj => rfl)⟩
    · refine b_if_eq C 33 dX8_mend_18 (by decide) (show (0 : Int32).toInt = 0 by decide) (fun c22 => ?_) (fun c22 => absurd c22 (by decide))
      refine v_iconst (v := (-1)) C dX8_mend_33 (by decide) ?_
      exact v_ret C dX8_mend_34 rfl rfl ⟨(show _ by rw [show ((-1) : Int32).toInt = (-1) by decide]; unfold okPr okLaw okRch; (repeat first | rw [if_pos (by omega)] | rw [if_neg (by omega)]); try omega), (fun j hj => rfl)⟩

