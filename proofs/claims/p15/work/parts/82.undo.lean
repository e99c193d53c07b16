def kc_35 : pj_KT := ([(53, 1), (53, 2)], [53], [])
theorem ct_35 (G0 : pj_G) (hI : pj_Inv G0) (p0_ : 1 ≤ (pj_fi G0 53 2).toInt) : pj_Y 1 35 [.ref 53] G0 (fun v G' => ∃ k : Nat, k < 16 ∧ v = some (.ref (57 + 6 * k)) ∧ pj_Inv G' ∧ pj_kpt kc_35 G0 G') := by
  have c0_ : ((Int8.ofInt 15).toInt32).toInt = 15 := by decide
  have c1_ : (Int32.ofInt 1).toInt = 1 := by decide
  have c2_ : (Int32.ofNat 16).toInt = 16 := by decide
  refine pj_Y_X (M := pj_m35) rfl rfl (Nat.le_of_ble_eq_true rfl) ?_
  have hK : pj_kpt kc_35 G0 G0 := pj_kpt_r _ _
  show pj_X _ _ G0 0 [(0, .ref 53)] [] _
  refine pj_X_of (fun r h => pj_R_to (G0, 2, [(0, .ref 53)], [.ref 53, .ref 53], 0, 0) 2 3 (fun _ => rfl) h) ?_
  refine pj_X_of (fun r h => pj_T_gi hI rfl rfl h) ?_
  show pj_X _ _ G0 5 [(0, .ref 53)] [.int (pj_fi G0 53 1), .ref 53] _
  obtain ⟨y1, hy1⟩ : ∃ z : Int32, z = pj_fi G0 53 1 := ⟨_, rfl⟩
  rw [← hy1]
  have ey1 : (pj_fi G0 53 1).toInt = y1.toInt := by rw [hy1]
  have ry1 : (0 : Int) ≤ y1.toInt ∧ y1.toInt ≤ 15 := by rw [hy1]; exact hI.2.1 53 1 (0, 15) rfl
  refine pj_X_of (fun r h => pj_R_to (G0, 8, [(0, .ref 53)], [.int (y1 + ((Int8.ofInt 15).toInt32)), .ref 53], 0, 0) 8 3 (fun _ => rfl) h) ?_
  obtain ⟨z2, hz2⟩ : ∃ z : Int32, z = y1 + ((Int8.ofInt 15).toInt32) := ⟨_, rfl⟩
  rw [← hz2]
  have fz2_0 : z2.toInt = y1.toInt + ((Int8.ofInt 15).toInt32).toInt := by rw [hz2]; exact pj_addI (by have := pj_i32 y1; have := pj_i32 ((Int8.ofInt 15).toInt32); omega) (by have := pj_i32 y1; have := pj_i32 ((Int8.ofInt 15).toInt32); omega)
  refine pj_X_of (fun r h => pj_R_to (G0, 9, [(0, .ref 53)], [.ref 53, .int z2, .ref 53], 0, 0) 9 2 (fun _ => rfl) h) ?_
  refine pj_X_of (fun r h => pj_T_gr hI rfl rfl rfl h) ?_
  refine pj_X_of (fun r h => pj_T_al hI rfl rfl (by decide) h) ?_
  refine pj_X_of (fun r h => pj_R_rm rfl (pj_nz (by omega)) h) ?_
  show pj_X _ _ G0 14 [(0, .ref 53)] [.int (z2 - z2 / (Int32.ofNat 16) * (Int32.ofNat 16)), .ref 53] _
  obtain ⟨z3, hz3⟩ : ∃ z : Int32, z = z2 - z2 / (Int32.ofNat 16) * (Int32.ofNat 16) := ⟨_, rfl⟩
  rw [← hz3]
  have fz3_0 : 0 ≤ z3.toInt ∧ z3.toInt < (Int32.ofNat 16).toInt := by rw [hz3]; exact pj_remI (by omega) (by omega)
  refine pj_X_of (fun r h => pj_T_pf hI rfl rfl rfl h) ?_
  show pj_X _ _ (pj_wv G0 53 1 (.int z3)) 17 [(0, .ref 53)] [] _
  obtain ⟨G4, hG4⟩ : ∃ H, H = pj_wv G0 53 1 (.int z3) := ⟨_, rfl⟩
  have iG4 : pj_Inv G4 := by rw [hG4]; exact pj_Inv_wi hI (ci := 4) rfl (fun q hq => by cases hq; exact ⟨by show (0 : Int) ≤ _; omega, by show _ ≤ (15 : Int); omega⟩)
  have kG4 : pj_kpt kc_35 G0 G4 := by rw [hG4]; exact pj_kpt_v hK rfl
  rw [← hG4]
  refine pj_X_of (fun r h => pj_R_to (G4, 19, [(0, .ref 53)], [.ref 53, .ref 53], 0, 0) 19 3 (fun _ => rfl) h) ?_
  refine pj_X_of (fun r h => pj_T_gi iG4 rfl rfl h) ?_
  show pj_X _ _ G4 22 [(0, .ref 53)] [.int (pj_fi G4 53 2), .ref 53] _
  obtain ⟨y5, hy5⟩ : ∃ z : Int32, z = pj_fi G0 53 2 := ⟨_, rfl⟩
  have ey5 : (pj_fi G0 53 2).toInt = y5.toInt := by rw [hy5]
  have ry5 : (0 : Int) ≤ y5.toInt ∧ y5.toInt ≤ 15 := by rw [hy5]; exact hI.2.1 53 2 (0, 15) rfl
  rw [show pj_fi G4 53 2 = y5 from by rw [hG4, pj_fi_wv_ne _ _ _ _ _ _ (by decide)]; exact hy5.symm]
  refine pj_X_of (fun r h => pj_R_to (G4, 24, [(0, .ref 53)], [.int (y5 - (Int32.ofInt 1)), .ref 53], 0, 0) 24 3 (fun _ => rfl) h) ?_
  obtain ⟨z6, hz6⟩ : ∃ z : Int32, z = y5 - (Int32.ofInt 1) := ⟨_, rfl⟩
  rw [← hz6]
  have fz6_0 : z6.toInt = y5.toInt - (Int32.ofInt 1).toInt := by rw [hz6]; exact pj_subI (by have := pj_i32 y5; have := pj_i32 (Int32.ofInt 1); omega) (by have := pj_i32 y5; have := pj_i32 (Int32.ofInt 1); omega)
  refine pj_X_of (fun r h => pj_T_pf iG4 rfl rfl rfl h) ?_
  show pj_X _ _ (pj_wv G4 53 2 (.int z6)) 27 [(0, .ref 53)] [] _
  obtain ⟨G7, hG7⟩ : ∃ H, H = pj_wv G4 53 2 (.int z6) := ⟨_, rfl⟩
  have iG7 : pj_Inv G7 := by rw [hG7]; exact pj_Inv_wi iG4 (ci := 4) rfl (fun q hq => by cases hq; exact ⟨by show (0 : Int) ≤ _; omega, by show _ ≤ (15 : Int); omega⟩)
  have kG7 : pj_kpt kc_35 G0 G7 := by rw [hG7]; exact pj_kpt_v kG4 rfl
  rw [← hG7]
  refine pj_X_of (fun r h => pj_R_to (G7, 28, [(0, .ref 53)], [.ref 53], 0, 0) 28 2 (fun _ => rfl) h) ?_
  refine pj_X_of (fun r h => pj_T_gr iG7 rfl rfl rfl h) ?_
  refine pj_X_of (fun r h => pj_R_to (G7, 32, [(0, .ref 53)], [.ref 53, .ref 54], 0, 0) 32 2 (fun _ => rfl) h) ?_
  refine pj_X_of (fun r h => pj_T_gi iG7 rfl rfl h) ?_
  show pj_X _ _ G7 35 [(0, .ref 53)] [.int (pj_fi G7 53 1), .ref 54] _
  rw [show pj_fi G7 53 1 = z3 from by rw [hG7, pj_fi_wv_ne _ _ _ _ _ _ (by decide)]; exact (by rw [hG4]; exact pj_fi_wi hI.1 (ci := 4) rfl _)]
  by_cases t8 : z3.toInt = 0
  · refine pj_X_aa iG7 rfl rfl (k := 0) (by show _ = ((0 : Nat) : Int); omega) (by decide) rfl ?_
    exact pj_X_rt rfl rfl ⟨0, by decide, rfl, iG7, kG7⟩
  by_cases t9 : z3.toInt = 1
  · refine pj_X_aa iG7 rfl rfl (k := 1) (by show _ = ((1 : Nat) : Int); omega) (by decide) rfl ?_
    exact pj_X_rt rfl rfl ⟨1, by decide, rfl, iG7, kG7⟩
  by_cases t10 : z3.toInt = 2
  · refine pj_X_aa iG7 rfl rfl (k := 2) (by show _ = ((2 : Nat) : Int); omega) (by decide) rfl ?_
    exact pj_X_rt rfl rfl ⟨2, by decide, rfl, iG7, kG7⟩
  by_cases t11 : z3.toInt = 3
  · refine pj_X_aa iG7 rfl rfl (k := 3) (by show _ = ((3 : Nat) : Int); omega) (by decide) rfl ?_
    exact pj_X_rt rfl rfl ⟨3, by decide, rfl, iG7, kG7⟩
  by_cases t12 : z3.toInt = 4
  · refine pj_X_aa iG7 rfl rfl (k := 4) (by show _ = ((4 : Nat) : Int); omega) (by decide) rfl ?_
    exact pj_X_rt rfl rfl ⟨4, by decide, rfl, iG7, kG7⟩
  by_cases t13 : z3.toInt = 5
  · refine pj_X_aa iG7 rfl rfl (k := 5) (by show _ = ((5 : Nat) : Int); omega) (by decide) rfl ?_
    exact pj_X_rt rfl rfl ⟨5, by decide, rfl, iG7, kG7⟩
  by_cases t14 : z3.toInt = 6
  · refine pj_X_aa iG7 rfl rfl (k := 6) (by show _ = ((6 : Nat) : Int); omega) (by decide) rfl ?_
    exact pj_X_rt rfl rfl ⟨6, by decide, rfl, iG7, kG7⟩
  by_cases t15 : z3.toInt = 7
  · refine pj_X_aa iG7 rfl rfl (k := 7) (by show _ = ((7 : Nat) : Int); omega) (by decide) rfl ?_
    exact pj_X_rt rfl rfl ⟨7, by decide, rfl, iG7, kG7⟩
  by_cases t16 : z3.toInt = 8
  · refine pj_X_aa iG7 rfl rfl (k := 8) (by show _ = ((8 : Nat) : Int); omega) (by decide) rfl ?_
    exact pj_X_rt rfl rfl ⟨8, by decide, rfl, iG7, kG7⟩
  by_cases t17 : z3.toInt = 9
  · refine pj_X_aa iG7 rfl rfl (k := 9) (by show _ = ((9 : Nat) : Int); omega) (by decide) rfl ?_
    exact pj_X_rt rfl rfl ⟨9, by decide, rfl, iG7, kG7⟩
  by_cases t18 : z3.toInt = 10
  · refine pj_X_aa iG7 rfl rfl (k := 10) (by show _ = ((10 : Nat) : Int); omega) (by decide) rfl ?_
    exact pj_X_rt rfl rfl ⟨10, by decide, rfl, iG7, kG7⟩
  by_cases t19 : z3.toInt = 11
  · refine pj_X_aa iG7 rfl rfl (k := 11) (by show _ = ((11 : Nat) : Int); omega) (by decide) rfl ?_
    exact pj_X_rt rfl rfl ⟨11, by decide, rfl, iG7, kG7⟩
  by_cases t20 : z3.toInt = 12
  · refine pj_X_aa iG7 rfl rfl (k := 12) (by show _ = ((12 : Nat) : Int); omega) (by decide) rfl ?_
    exact pj_X_rt rfl rfl ⟨12, by decide, rfl, iG7, kG7⟩
  by_cases t21 : z3.toInt = 13
  · refine pj_X_aa iG7 rfl rfl (k := 13) (by show _ = ((13 : Nat) : Int); omega) (by decide) rfl ?_
    exact pj_X_rt rfl rfl ⟨13, by decide, rfl, iG7, kG7⟩
  by_cases t22 : z3.toInt = 14
  · refine pj_X_aa iG7 rfl rfl (k := 14) (by show _ = ((14 : Nat) : Int); omega) (by decide) rfl ?_
    exact pj_X_rt rfl rfl ⟨14, by decide, rfl, iG7, kG7⟩
  · refine pj_X_aa iG7 rfl rfl (k := 15) (by show _ = ((15 : Nat) : Int); omega) (by decide) rfl ?_
    exact pj_X_rt rfl rfl ⟨15, by decide, rfl, iG7, kG7⟩
def kc_133 : pj_KT := ([(21, 0), (21, 5), (21, 7), (21, 8), (53, 1), (53, 2)], [21, 22, 23, 24, 25, 26, 53], [22, 23, 24, 25, 26])
theorem ct_133 (G0 : pj_G) (hI : pj_Inv G0) : pj_Y 2 133 [.ref 1] G0 (fun v G' => ∃ y : Int32, v = some (.int y) ∧ pj_Inv G' ∧ pj_kpt kc_133 G0 G' ∧ ((-2147483648 : Int) ≤ y.toInt ∧ y.toInt ≤ 2147483647)) := by
  have c0_ : (Int32.ofInt (-1)).toInt = -1 := by decide
  refine pj_Y_X (M := pj_m133) rfl rfl (Nat.le_of_ble_eq_true rfl) ?_
  have hK : pj_kpt kc_133 G0 G0 := pj_kpt_r _ _
  show pj_X _ _ G0 0 [(0, .ref 1)] [] _
  refine pj_X_of (fun r h => pj_R_to (G0, 1, [(0, .ref 1)], [.ref 1], 0, 0) 1 2 (fun _ => rfl) h) ?_
  refine pj_X_of (fun r h => pj_T_gr hI rfl rfl rfl h) ?_
  refine pj_X_of (fun r h => pj_T_gi hI rfl rfl h) ?_
  show pj_X _ _ G0 7 [(0, .ref 1)] [.int (pj_fi G0 53 2)] _
  obtain ⟨y1, hy1⟩ : ∃ z : Int32, z = pj_fi G0 53 2 := ⟨_, rfl⟩
  rw [← hy1]
  have ey1 : (pj_fi G0 53 2).toInt = y1.toInt := by rw [hy1]
  have ry1 : (0 : Int) ≤ y1.toInt ∧ y1.toInt ≤ 15 := by rw [hy1]; exact hI.2.1 53 2 (0, 15) rfl
  cases b2 : pj_c1 .ne y1 0 with
  | true =>
    have ub2 := pj_u0_neT b2
    refine pj_X_of (fun r h => pj_R_ifT 12 rfl rfl b2 h) ?_
    refine pj_X_of (fun r h => pj_R_to (G0, 13, [(0, .ref 1)], [.ref 1], 0, 0) 13 2 (fun _ => rfl) h) ?_
    refine pj_X_of (fun r h => pj_T_gr hI rfl rfl rfl h) ?_
    refine pj_X_of (fun r h => pj_T_gr hI rfl rfl rfl h) ?_
    refine pj_X_of (fun r h => pj_R_to (G0, 20, [(0, .ref 1)], [.ref 1, .ref 21], 0, 0) 20 2 (fun _ => rfl) h) ?_
    refine pj_X_of (fun r h => pj_T_gr hI rfl rfl rfl h) ?_
    refine pj_X_ca (vs := [.ref 53]) rfl (fun _ => rfl) ⟨Nat.le_of_ble_eq_true rfl, Nat.le_of_ble_eq_true rfl, pj_T_rcv hI rfl⟩ ⟨rfl, rfl⟩ (pj_Y_up (by decide) (ct_35 G0 hI (by omega))) ?_
    rintro _ G4 ⟨y3, hy3, rfl, iG4, jG4⟩
    have kG4 : pj_kpt kc_133 G0 G4 := pj_kpt_t hK (pj_kpt_s jG4 rfl)
    rcases (show y3 = 0 ∨ y3 = 1 ∨ y3 = 2 ∨ y3 = 3 ∨ y3 = 4 ∨ y3 = 5 ∨ y3 = 6 ∨ y3 = 7 ∨ y3 = 8 ∨ y3 = 9 ∨ y3 = 10 ∨ y3 = 11 ∨ y3 = 12 ∨ y3 = 13 ∨ y3 = 14 ∨ y3 = 15 by omega) with rfl | rfl | rfl | rfl | rfl | rfl | rfl | rfl | rfl | rfl | rfl | rfl | rfl | rfl | rfl | rfl
    · show pj_X _ _ G4 26 [(0, .ref 1)] [.ref 57, .ref 21] _
      refine pj_X_ca (vs := [.ref 21, .ref 57]) rfl (fun _ => rfl) ⟨Nat.le_of_ble_eq_true rfl, Nat.le_of_ble_eq_true rfl, pj_T_rcv iG4 rfl⟩ ⟨rfl, rfl⟩ (pj_Y_up (by decide) (ct_68_21_57x G4 iG4)) ?_
      rintro _ G6 ⟨rfl, iG6, jG6, eG6, fy5⟩
      replace eG6 := eG6 _ rfl
      have kG6 : pj_kpt kc_133 G0 G6 := pj_kpt_t kG4 (pj_kpt_s jG6 rfl)
      show pj_X _ _ G6 29 [(0, .ref 1)] [] _
      refine pj_X_of (fun r h => pj_R_to (G6, 30, [(0, .ref 1)], [.ref 1], 0, 0) 30 2 (fun _ => rfl) h) ?_
      refine pj_X_of (fun r h => pj_T_gr iG6 rfl rfl rfl h) ?_
      refine pj_X_of (fun r h => pj_T_gi iG6 rfl rfl h) ?_
      show pj_X _ _ G6 36 [(0, .ref 1)] [.int (pj_fi G6 53 2)] _
      obtain ⟨y7, hy7⟩ : ∃ z : Int32, z = pj_fi G6 53 2 := ⟨_, rfl⟩
      rw [← hy7]
      have ey7 : (pj_fi G6 53 2).toInt = y7.toInt := by rw [hy7]
      have ry7 : (0 : Int) ≤ y7.toInt ∧ y7.toInt ≤ 15 := by rw [hy7]; exact iG6.2.1 53 2 (0, 15) rfl
      exact pj_X_rt rfl rfl ⟨_, rfl, iG6, kG6, pj_i32 _⟩
    · show pj_X _ _ G4 26 [(0, .ref 1)] [.ref 63, .ref 21] _
      refine pj_X_ca (vs := [.ref 21, .ref 63]) rfl (fun _ => rfl) ⟨Nat.le_of_ble_eq_true rfl, Nat.le_of_ble_eq_true rfl, pj_T_rcv iG4 rfl⟩ ⟨rfl, rfl⟩ (pj_Y_up (by decide) (ct_68_21_63x G4 iG4)) ?_
      rintro _ G9 ⟨rfl, iG9, jG9, eG9, fy8⟩
      replace eG9 := eG9 _ rfl
      have kG9 : pj_kpt kc_133 G0 G9 := pj_kpt_t kG4 (pj_kpt_s jG9 rfl)
      show pj_X _ _ G9 29 [(0, .ref 1)] [] _
      refine pj_X_of (fun r h => pj_R_to (G9, 30, [(0, .ref 1)], [.ref 1], 0, 0) 30 2 (fun _ => rfl) h) ?_
      refine pj_X_of (fun r h => pj_T_gr iG9 rfl rfl rfl h) ?_
      refine pj_X_of (fun r h => pj_T_gi iG9 rfl rfl h) ?_
      show pj_X _ _ G9 36 [(0, .ref 1)] [.int (pj_fi G9 53 2)] _
      obtain ⟨y10, hy10⟩ : ∃ z : Int32, z = pj_fi G9 53 2 := ⟨_, rfl⟩
      rw [← hy10]
      have ey10 : (pj_fi G9 53 2).toInt = y10.toInt := by rw [hy10]
      have ry10 : (0 : Int) ≤ y10.toInt ∧ y10.toInt ≤ 15 := by rw [hy10]; exact iG9.2.1 53 2 (0, 15) rfl
      exact pj_X_rt rfl rfl ⟨_, rfl, iG9, kG9, pj_i32 _⟩
    · show pj_X _ _ G4 26 [(0, .ref 1)] [.ref 69, .ref 21] _
      refine pj_X_ca (vs := [.ref 21, .ref 69]) rfl (fun _ => rfl) ⟨Nat.le_of_ble_eq_true rfl, Nat.le_of_ble_eq_true rfl, pj_T_rcv iG4 rfl⟩ ⟨rfl, rfl⟩ (pj_Y_up (by decide) (ct_68_21_69x G4 iG4)) ?_
      rintro _ G12 ⟨rfl, iG12, jG12, eG12, fy11⟩
      replace eG12 := eG12 _ rfl
      have kG12 : pj_kpt kc_133 G0 G12 := pj_kpt_t kG4 (pj_kpt_s jG12 rfl)
      show pj_X _ _ G12 29 [(0, .ref 1)] [] _
      refine pj_X_of (fun r h => pj_R_to (G12, 30, [(0, .ref 1)], [.ref 1], 0, 0) 30 2 (fun _ => rfl) h) ?_
      refine pj_X_of (fun r h => pj_T_gr iG12 rfl rfl rfl h) ?_
      refine pj_X_of (fun r h => pj_T_gi iG12 rfl rfl h) ?_
      show pj_X _ _ G12 36 [(0, .ref 1)] [.int (pj_fi G12 53 2)] _
      obtain ⟨y13, hy13⟩ : ∃ z : Int32, z = pj_fi G12 53 2 := ⟨_, rfl⟩
      rw [← hy13]
      have ey13 : (pj_fi G12 53 2).toInt = y13.toInt := by rw [hy13]
      have ry13 : (0 : Int) ≤ y13.toInt ∧ y13.toInt ≤ 15 := by rw [hy13]; exact iG12.2.1 53 2 (0, 15) rfl
      exact pj_X_rt rfl rfl ⟨_, rfl, iG12, kG12, pj_i32 _⟩
    · show pj_X _ _ G4 26 [(0, .ref 1)] [.ref 75, .ref 21] _
      refine pj_X_ca (vs := [.ref 21, .ref 75]) rfl (fun _ => rfl) ⟨Nat.le_of_ble_eq_true rfl, Nat.le_of_ble_eq_true rfl, pj_T_rcv iG4 rfl⟩ ⟨rfl, rfl⟩ (pj_Y_up (by decide) (ct_68_21_75x G4 iG4)) ?_
      rintro _ G15 ⟨rfl, iG15, jG15, eG15, fy14⟩
      replace eG15 := eG15 _ rfl
      have kG15 : pj_kpt kc_133 G0 G15 := pj_kpt_t kG4 (pj_kpt_s jG15 rfl)
      show pj_X _ _ G15 29 [(0, .ref 1)] [] _
      refine pj_X_of (fun r h => pj_R_to (G15, 30, [(0, .ref 1)], [.ref 1], 0, 0) 30 2 (fun _ => rfl) h) ?_
      refine pj_X_of (fun r h => pj_T_gr iG15 rfl rfl rfl h) ?_
      refine pj_X_of (fun r h => pj_T_gi iG15 rfl rfl h) ?_
      show pj_X _ _ G15 36 [(0, .ref 1)] [.int (pj_fi G15 53 2)] _
      obtain ⟨y16, hy16⟩ : ∃ z : Int32, z = pj_fi G15 53 2 := ⟨_, rfl⟩
      rw [← hy16]
      have ey16 : (pj_fi G15 53 2).toInt = y16.toInt := by rw [hy16]
      have ry16 : (0 : Int) ≤ y16.toInt ∧ y16.toInt ≤ 15 := by rw [hy16]; exact iG15.2.1 53 2 (0, 15) rfl
      exact pj_X_rt rfl rfl ⟨_, rfl, iG15, kG15, pj_i32 _⟩
    · show pj_X _ _ G4 26 [(0, .ref 1)] [.ref 81, .ref 21] _
      refine pj_X_ca (vs := [.ref 21, .ref 81]) rfl (fun _ => rfl) ⟨Nat.le_of_ble_eq_true rfl, Nat.le_of_ble_eq_true rfl, pj_T_rcv iG4 rfl⟩ ⟨rfl, rfl⟩ (pj_Y_up (by decide) (ct_68_21_81x G4 iG4)) ?_
      rintro _ G18 ⟨rfl, iG18, jG18, eG18, fy17⟩
      replace eG18 := eG18 _ rfl
      have kG18 : pj_kpt kc_133 G0 G18 := pj_kpt_t kG4 (pj_kpt_s jG18 rfl)
      show pj_X _ _ G18 29 [(0, .ref 1)] [] _
      refine pj_X_of (fun r h => pj_R_to (G18, 30, [(0, .ref 1)], [.ref 1], 0, 0) 30 2 (fun _ => rfl) h) ?_
      refine pj_X_of (fun r h => pj_T_gr iG18 rfl rfl rfl h) ?_
      refine pj_X_of (fun r h => pj_T_gi iG18 rfl rfl h) ?_
      show pj_X _ _ G18 36 [(0, .ref 1)] [.int (pj_fi G18 53 2)] _
      obtain ⟨y19, hy19⟩ : ∃ z : Int32, z = pj_fi G18 53 2 := ⟨_, rfl⟩
      rw [← hy19]
      have ey19 : (pj_fi G18 53 2).toInt = y19.toInt := by rw [hy19]
      have ry19 : (0 : Int) ≤ y19.toInt ∧ y19.toInt ≤ 15 := by rw [hy19]; exact iG18.2.1 53 2 (0, 15) rfl
      exact pj_X_rt rfl rfl ⟨_, rfl, iG18, kG18, pj_i32 _⟩
    · show pj_X _ _ G4 26 [(0, .ref 1)] [.ref 87, .ref 21] _
      refine pj_X_ca (vs := [.ref 21, .ref 87]) rfl (fun _ => rfl) ⟨Nat.le_of_ble_eq_true rfl, Nat.le_of_ble_eq_true rfl, pj_T_rcv iG4 rfl⟩ ⟨rfl, rfl⟩ (pj_Y_up (by decide) (ct_68_21_87x G4 iG4)) ?_
      rintro _ G21 ⟨rfl, iG21, jG21, eG21, fy20⟩
      replace eG21 := eG21 _ rfl
      have kG21 : pj_kpt kc_133 G0 G21 := pj_kpt_t kG4 (pj_kpt_s jG21 rfl)
      show pj_X _ _ G21 29 [(0, .ref 1)] [] _
      refine pj_X_of (fun r h => pj_R_to (G21, 30, [(0, .ref 1)], [.ref 1], 0, 0) 30 2 (fun _ => rfl) h) ?_
      refine pj_X_of (fun r h => pj_T_gr iG21 rfl rfl rfl h) ?_
      refine pj_X_of (fun r h => pj_T_gi iG21 rfl rfl h) ?_
      show pj_X _ _ G21 36 [(0, .ref 1)] [.int (pj_fi G21 53 2)] _
      obtain ⟨y22, hy22⟩ : ∃ z : Int32, z = pj_fi G21 53 2 := ⟨_, rfl⟩
      rw [← hy22]
      have ey22 : (pj_fi G21 53 2).toInt = y22.toInt := by rw [hy22]
      have ry22 : (0 : Int) ≤ y22.toInt ∧ y22.toInt ≤ 15 := by rw [hy22]; exact iG21.2.1 53 2 (0, 15) rfl
      exact pj_X_rt rfl rfl ⟨_, rfl, iG21, kG21, pj_i32 _⟩
    · show pj_X _ _ G4 26 [(0, .ref 1)] [.ref 93, .ref 21] _
      refine pj_X_ca (vs := [.ref 21, .ref 93]) rfl (fun _ => rfl) ⟨Nat.le_of_ble_eq_true rfl, Nat.le_of_ble_eq_true rfl, pj_T_rcv iG4 rfl⟩ ⟨rfl, rfl⟩ (pj_Y_up (by decide) (ct_68_21_93x G4 iG4)) ?_
      rintro _ G24 ⟨rfl, iG24, jG24, eG24, fy23⟩
      replace eG24 := eG24 _ rfl
      have kG24 : pj_kpt kc_133 G0 G24 := pj_kpt_t kG4 (pj_kpt_s jG24 rfl)
      show pj_X _ _ G24 29 [(0, .ref 1)] [] _
      refine pj_X_of (fun r h => pj_R_to (G24, 30, [(0, .ref 1)], [.ref 1], 0, 0) 30 2 (fun _ => rfl) h) ?_
      refine pj_X_of (fun r h => pj_T_gr iG24 rfl rfl rfl h) ?_
      refine pj_X_of (fun r h => pj_T_gi iG24 rfl rfl h) ?_
      show pj_X _ _ G24 36 [(0, .ref 1)] [.int (pj_fi G24 53 2)] _
      obtain ⟨y25, hy25⟩ : ∃ z : Int32, z = pj_fi G24 53 2 := ⟨_, rfl⟩
      rw [← hy25]
      have ey25 : (pj_fi G24 53 2).toInt = y25.toInt := by rw [hy25]
      have ry25 : (0 : Int) ≤ y25.toInt ∧ y25.toInt ≤ 15 := by rw [hy25]; exact iG24.2.1 53 2 (0, 15) rfl
      exact pj_X_rt rfl rfl ⟨_, rfl, iG24, kG24, pj_i32 _⟩
    · show pj_X _ _ G4 26 [(0, .ref 1)] [.ref 99, .ref 21] _
      refine pj_X_ca (vs := [.ref 21, .ref 99]) rfl (fun _ => rfl) ⟨Nat.le_of_ble_eq_true rfl, Nat.le_of_ble_eq_true rfl, pj_T_rcv iG4 rfl⟩ ⟨rfl, rfl⟩ (pj_Y_up (by decide) (ct_68_21_99x G4 iG4)) ?_
      rintro _ G27 ⟨rfl, iG27, jG27, eG27, fy26⟩
      replace eG27 := eG27 _ rfl
      have kG27 : pj_kpt kc_133 G0 G27 := pj_kpt_t kG4 (pj_kpt_s jG27 rfl)
      show pj_X _ _ G27 29 [(0, .ref 1)] [] _
      refine pj_X_of (fun r h => pj_R_to (G27, 30, [(0, .ref 1)], [.ref 1], 0, 0) 30 2 (fun _ => rfl) h) ?_
      refine pj_X_of (fun r h => pj_T_gr iG27 rfl rfl rfl h) ?_
      refine pj_X_of (fun r h => pj_T_gi iG27 rfl rfl h) ?_
      show pj_X _ _ G27 36 [(0, .ref 1)] [.int (pj_fi G27 53 2)] _
      obtain ⟨y28, hy28⟩ : ∃ z : Int32, z = pj_fi G27 53 2 := ⟨_, rfl⟩
      rw [← hy28]
      have ey28 : (pj_fi G27 53 2).toInt = y28.toInt := by rw [hy28]
      have ry28 : (0 : Int) ≤ y28.toInt ∧ y28.toInt ≤ 15 := by rw [hy28]; exact iG27.2.1 53 2 (0, 15) rfl
      exact pj_X_rt rfl rfl ⟨_, rfl, iG27, kG27, pj_i32 _⟩
    · show pj_X _ _ G4 26 [(0, .ref 1)] [.ref 105, .ref 21] _
      refine pj_X_ca (vs := [.ref 21, .ref 105]) rfl (fun _ => rfl) ⟨Nat.le_of_ble_eq_true rfl, Nat.le_of_ble_eq_true rfl, pj_T_rcv iG4 rfl⟩ ⟨rfl, rfl⟩ (pj_Y_up (by decide) (ct_68_21_105x G4 iG4)) ?_
      rintro _ G30 ⟨rfl, iG30, jG30, eG30, fy29⟩
      replace eG30 := eG30 _ rfl
      have kG30 : pj_kpt kc_133 G0 G30 := pj_kpt_t kG4 (pj_kpt_s jG30 rfl)
      show pj_X _ _ G30 29 [(0, .ref 1)] [] _
      refine pj_X_of (fun r h => pj_R_to (G30, 30, [(0, .ref 1)], [.ref 1], 0, 0) 30 2 (fun _ => rfl) h) ?_
      refine pj_X_of (fun r h => pj_T_gr iG30 rfl rfl rfl h) ?_
      refine pj_X_of (fun r h => pj_T_gi iG30 rfl rfl h) ?_
      show pj_X _ _ G30 36 [(0, .ref 1)] [.int (pj_fi G30 53 2)] _
      obtain ⟨y31, hy31⟩ : ∃ z : Int32, z = pj_fi G30 53 2 := ⟨_, rfl⟩
      rw [← hy31]
      have ey31 : (pj_fi G30 53 2).toInt = y31.toInt := by rw [hy31]
      have ry31 : (0 : Int) ≤ y31.toInt ∧ y31.toInt ≤ 15 := by rw [hy31]; exact iG30.2.1 53 2 (0, 15) rfl
      exact pj_X_rt rfl rfl ⟨_, rfl, iG30, kG30, pj_i32 _⟩
    · show pj_X _ _ G4 26 [(0, .ref 1)] [.ref 111, .ref 21] _
      refine pj_X_ca (vs := [.ref 21, .ref 111]) rfl (fun _ => rfl) ⟨Nat.le_of_ble_eq_true rfl, Nat.le_of_ble_eq_true rfl, pj_T_rcv iG4 rfl⟩ ⟨rfl, rfl⟩ (pj_Y_up (by decide) (ct_68_21_111x G4 iG4)) ?_
      rintro _ G33 ⟨rfl, iG33, jG33, eG33, fy32⟩
      replace eG33 := eG33 _ rfl
      have kG33 : pj_kpt kc_133 G0 G33 := pj_kpt_t kG4 (pj_kpt_s jG33 rfl)
      show pj_X _ _ G33 29 [(0, .ref 1)] [] _
      refine pj_X_of (fun r h => pj_R_to (G33, 30, [(0, .ref 1)], [.ref 1], 0, 0) 30 2 (fun _ => rfl) h) ?_
      refine pj_X_of (fun r h => pj_T_gr iG33 rfl rfl rfl h) ?_
      refine pj_X_of (fun r h => pj_T_gi iG33 rfl rfl h) ?_
      show pj_X _ _ G33 36 [(0, .ref 1)] [.int (pj_fi G33 53 2)] _
      obtain ⟨y34, hy34⟩ : ∃ z : Int32, z = pj_fi G33 53 2 := ⟨_, rfl⟩
      rw [← hy34]
      have ey34 : (pj_fi G33 53 2).toInt = y34.toInt := by rw [hy34]
      have ry34 : (0 : Int) ≤ y34.toInt ∧ y34.toInt ≤ 15 := by rw [hy34]; exact iG33.2.1 53 2 (0, 15) rfl
      exact pj_X_rt rfl rfl ⟨_, rfl, iG33, kG33, pj_i32 _⟩
    · show pj_X _ _ G4 26 [(0, .ref 1)] [.ref 117, .ref 21] _
      refine pj_X_ca (vs := [.ref 21, .ref 117]) rfl (fun _ => rfl) ⟨Nat.le_of_ble_eq_true rfl, Nat.le_of_ble_eq_true rfl, pj_T_rcv iG4 rfl⟩ ⟨rfl, rfl⟩ (pj_Y_up (by decide) (ct_68_21_117x G4 iG4)) ?_
      rintro _ G36 ⟨rfl, iG36, jG36, eG36, fy35⟩
      replace eG36 := eG36 _ rfl
      have kG36 : pj_kpt kc_133 G0 G36 := pj_kpt_t kG4 (pj_kpt_s jG36 rfl)
      show pj_X _ _ G36 29 [(0, .ref 1)] [] _
      refine pj_X_of (fun r h => pj_R_to (G36, 30, [(0, .ref 1)], [.ref 1], 0, 0) 30 2 (fun _ => rfl) h) ?_
      refine pj_X_of (fun r h => pj_T_gr iG36 rfl rfl rfl h) ?_
      refine pj_X_of (fun r h => pj_T_gi iG36 rfl rfl h) ?_
      show pj_X _ _ G36 36 [(0, .ref 1)] [.int (pj_fi G36 53 2)] _
      obtain ⟨y37, hy37⟩ : ∃ z : Int32, z = pj_fi G36 53 2 := ⟨_, rfl⟩
      rw [← hy37]
      have ey37 : (pj_fi G36 53 2).toInt = y37.toInt := by rw [hy37]
      have ry37 : (0 : Int) ≤ y37.toInt ∧ y37.toInt ≤ 15 := by rw [hy37]; exact iG36.2.1 53 2 (0, 15) rfl
      exact pj_X_rt rfl rfl ⟨_, rfl, iG36, kG36, pj_i32 _⟩
    · show pj_X _ _ G4 26 [(0, .ref 1)] [.ref 123, .ref 21] _
      refine pj_X_ca (vs := [.ref 21, .ref 123]) rfl (fun _ => rfl) ⟨Nat.le_of_ble_eq_true rfl, Nat.le_of_ble_eq_true rfl, pj_T_rcv iG4 rfl⟩ ⟨rfl, rfl⟩ (pj_Y_up (by decide) (ct_68_21_123x G4 iG4)) ?_
      rintro _ G39 ⟨rfl, iG39, jG39, eG39, fy38⟩
      replace eG39 := eG39 _ rfl
      have kG39 : pj_kpt kc_133 G0 G39 := pj_kpt_t kG4 (pj_kpt_s jG39 rfl)
      show pj_X _ _ G39 29 [(0, .ref 1)] [] _
      refine pj_X_of (fun r h => pj_R_to (G39, 30, [(0, .ref 1)], [.ref 1], 0, 0) 30 2 (fun _ => rfl) h) ?_
      refine pj_X_of (fun r h => pj_T_gr iG39 rfl rfl rfl h) ?_
      refine pj_X_of (fun r h => pj_T_gi iG39 rfl rfl h) ?_
      show pj_X _ _ G39 36 [(0, .ref 1)] [.int (pj_fi G39 53 2)] _
      obtain ⟨y40, hy40⟩ : ∃ z : Int32, z = pj_fi G39 53 2 := ⟨_, rfl⟩
      rw [← hy40]
      have ey40 : (pj_fi G39 53 2).toInt = y40.toInt := by rw [hy40]
      have ry40 : (0 : Int) ≤ y40.toInt ∧ y40.toInt ≤ 15 := by rw [hy40]; exact iG39.2.1 53 2 (0, 15) rfl
      exact pj_X_rt rfl rfl ⟨_, rfl, iG39, kG39, pj_i32 _⟩
    · show pj_X _ _ G4 26 [(0, .ref 1)] [.ref 129, .ref 21] _
      refine pj_X_ca (vs := [.ref 21, .ref 129]) rfl (fun _ => rfl) ⟨Nat.le_of_ble_eq_true rfl, Nat.le_of_ble_eq_true rfl, pj_T_rcv iG4 rfl⟩ ⟨rfl, rfl⟩ (pj_Y_up (by decide) (ct_68_21_129x G4 iG4)) ?_
      rintro _ G42 ⟨rfl, iG42, jG42, eG42, fy41⟩
      replace eG42 := eG42 _ rfl
      have kG42 : pj_kpt kc_133 G0 G42 := pj_kpt_t kG4 (pj_kpt_s jG42 rfl)
      show pj_X _ _ G42 29 [(0, .ref 1)] [] _
      refine pj_X_of (fun r h => pj_R_to (G42, 30, [(0, .ref 1)], [.ref 1], 0, 0) 30 2 (fun _ => rfl) h) ?_
      refine pj_X_of (fun r h => pj_T_gr iG42 rfl rfl rfl h) ?_
      refine pj_X_of (fun r h => pj_T_gi iG42 rfl rfl h) ?_
      show pj_X _ _ G42 36 [(0, .ref 1)] [.int (pj_fi G42 53 2)] _
      obtain ⟨y43, hy43⟩ : ∃ z : Int32, z = pj_fi G42 53 2 := ⟨_, rfl⟩
      rw [← hy43]
      have ey43 : (pj_fi G42 53 2).toInt = y43.toInt := by rw [hy43]
      have ry43 : (0 : Int) ≤ y43.toInt ∧ y43.toInt ≤ 15 := by rw [hy43]; exact iG42.2.1 53 2 (0, 15) rfl
      exact pj_X_rt rfl rfl ⟨_, rfl, iG42, kG42, pj_i32 _⟩
    · show pj_X _ _ G4 26 [(0, .ref 1)] [.ref 135, .ref 21] _
      refine pj_X_ca (vs := [.ref 21, .ref 135]) rfl (fun _ => rfl) ⟨Nat.le_of_ble_eq_true rfl, Nat.le_of_ble_eq_true rfl, pj_T_rcv iG4 rfl⟩ ⟨rfl, rfl⟩ (pj_Y_up (by decide) (ct_68_21_135x G4 iG4)) ?_
      rintro _ G45 ⟨rfl, iG45, jG45, eG45, fy44⟩
      replace eG45 := eG45 _ rfl
      have kG45 : pj_kpt kc_133 G0 G45 := pj_kpt_t kG4 (pj_kpt_s jG45 rfl)
      show pj_X _ _ G45 29 [(0, .ref 1)] [] _
      refine pj_X_of (fun r h => pj_R_to (G45, 30, [(0, .ref 1)], [.ref 1], 0, 0) 30 2 (fun _ => rfl) h) ?_
      refine pj_X_of (fun r h => pj_T_gr iG45 rfl rfl rfl h) ?_
      refine pj_X_of (fun r h => pj_T_gi iG45 rfl rfl h) ?_
      show pj_X _ _ G45 36 [(0, .ref 1)] [.int (pj_fi G45 53 2)] _
      obtain ⟨y46, hy46⟩ : ∃ z : Int32, z = pj_fi G45 53 2 := ⟨_, rfl⟩
      rw [← hy46]
      have ey46 : (pj_fi G45 53 2).toInt = y46.toInt := by rw [hy46]
      have ry46 : (0 : Int) ≤ y46.toInt ∧ y46.toInt ≤ 15 := by rw [hy46]; exact iG45.2.1 53 2 (0, 15) rfl
      exact pj_X_rt rfl rfl ⟨_, rfl, iG45, kG45, pj_i32 _⟩
    · show pj_X _ _ G4 26 [(0, .ref 1)] [.ref 141, .ref 21] _
      refine pj_X_ca (vs := [.ref 21, .ref 141]) rfl (fun _ => rfl) ⟨Nat.le_of_ble_eq_true rfl, Nat.le_of_ble_eq_true rfl, pj_T_rcv iG4 rfl⟩ ⟨rfl, rfl⟩ (pj_Y_up (by decide) (ct_68_21_141x G4 iG4)) ?_
      rintro _ G48 ⟨rfl, iG48, jG48, eG48, fy47⟩
      replace eG48 := eG48 _ rfl
      have kG48 : pj_kpt kc_133 G0 G48 := pj_kpt_t kG4 (pj_kpt_s jG48 rfl)
      show pj_X _ _ G48 29 [(0, .ref 1)] [] _
      refine pj_X_of (fun r h => pj_R_to (G48, 30, [(0, .ref 1)], [.ref 1], 0, 0) 30 2 (fun _ => rfl) h) ?_
      refine pj_X_of (fun r h => pj_T_gr iG48 rfl rfl rfl h) ?_
      refine pj_X_of (fun r h => pj_T_gi iG48 rfl rfl h) ?_
      show pj_X _ _ G48 36 [(0, .ref 1)] [.int (pj_fi G48 53 2)] _
      obtain ⟨y49, hy49⟩ : ∃ z : Int32, z = pj_fi G48 53 2 := ⟨_, rfl⟩
      rw [← hy49]
      have ey49 : (pj_fi G48 53 2).toInt = y49.toInt := by rw [hy49]
      have ry49 : (0 : Int) ≤ y49.toInt ∧ y49.toInt ≤ 15 := by rw [hy49]; exact iG48.2.1 53 2 (0, 15) rfl
      exact pj_X_rt rfl rfl ⟨_, rfl, iG48, kG48, pj_i32 _⟩
    · show pj_X _ _ G4 26 [(0, .ref 1)] [.ref 147, .ref 21] _
      refine pj_X_ca (vs := [.ref 21, .ref 147]) rfl (fun _ => rfl) ⟨Nat.le_of_ble_eq_true rfl, Nat.le_of_ble_eq_true rfl, pj_T_rcv iG4 rfl⟩ ⟨rfl, rfl⟩ (pj_Y_up (by decide) (ct_68_21_147x G4 iG4)) ?_
      rintro _ G51 ⟨rfl, iG51, jG51, eG51, fy50⟩
      replace eG51 := eG51 _ rfl
      have kG51 : pj_kpt kc_133 G0 G51 := pj_kpt_t kG4 (pj_kpt_s jG51 rfl)
      show pj_X _ _ G51 29 [(0, .ref 1)] [] _
      refine pj_X_of (fun r h => pj_R_to (G51, 30, [(0, .ref 1)], [.ref 1], 0, 0) 30 2 (fun _ => rfl) h) ?_
      refine pj_X_of (fun r h => pj_T_gr iG51 rfl rfl rfl h) ?_
      refine pj_X_of (fun r h => pj_T_gi iG51 rfl rfl h) ?_
      show pj_X _ _ G51 36 [(0, .ref 1)] [.int (pj_fi G51 53 2)] _
      obtain ⟨y52, hy52⟩ : ∃ z : Int32, z = pj_fi G51 53 2 := ⟨_, rfl⟩
      rw [← hy52]
      have ey52 : (pj_fi G51 53 2).toInt = y52.toInt := by rw [hy52]
      have ry52 : (0 : Int) ≤ y52.toInt ∧ y52.toInt ≤ 15 := by rw [hy52]; exact iG51.2.1 53 2 (0, 15) rfl
      exact pj_X_rt rfl rfl ⟨_, rfl, iG51, kG51, pj_i32 _⟩
  | false =>
    have ub2 := pj_u0_neF b2
    refine pj_X_of (fun r h => pj_R_ifF rfl b2 h) ?_
    refine pj_X_of (fun r h => pj_R_to (G0, 11, [(0, .ref 1)], [.int (Int32.ofInt (-1))], 0, 0) 11 2 (fun _ => rfl) h) ?_
    exact pj_X_rt rfl rfl ⟨_, rfl, hI, hK, pj_i32 _⟩
