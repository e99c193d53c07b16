def kc_33 : pj_KT := ([(57, 0), (57, 5), (57, 7), (57, 8), (63, 0), (63, 5), (63, 7), (63, 8), (69, 0), (69, 5), (69, 7), (69, 8), (75, 0), (75, 5), (75, 7), (75, 8), (81, 0), (81, 5), (81, 7), (81, 8), (87, 0), (87, 5), (87, 7), (87, 8), (93, 0), (93, 5), (93, 7), (93, 8), (99, 0), (99, 5), (99, 7), (99, 8), (105, 0), (105, 5), (105, 7), (105, 8), (111, 0), (111, 5), (111, 7), (111, 8), (117, 0), (117, 5), (117, 7), (117, 8), (123, 0), (123, 5), (123, 7), (123, 8), (129, 0), (129, 5), (129, 7), (129, 8), (135, 0), (135, 5), (135, 7), (135, 8), (141, 0), (141, 5), (141, 7), (141, 8), (147, 0), (147, 5), (147, 7), (147, 8)], [57, 58, 59, 60, 61, 62, 63, 64, 65, 66, 67, 68, 69, 70, 71, 72, 73, 74, 75, 76, 77, 78, 79, 80, 81, 82, 83, 84, 85, 86, 87, 88, 89, 90, 91, 92, 93, 94, 95, 96, 97, 98, 99, 100, 101, 102, 103, 104, 105, 106, 107, 108, 109, 110, 111, 112, 113, 114, 115, 116, 117, 118, 119, 120, 121, 122, 123, 124, 125, 126, 127, 128, 129, 130, 131, 132, 133, 134, 135, 136, 137, 138, 139, 140, 141, 142, 143, 144, 145, 146, 147, 148, 149, 150, 151, 152], [58, 59, 60, 61, 62, 64, 65, 66, 67, 68, 70, 71, 72, 73, 74, 76, 77, 78, 79, 80, 82, 83, 84, 85, 86, 88, 89, 90, 91, 92, 94, 95, 96, 97, 98, 100, 101, 102, 103, 104, 106, 107, 108, 109, 110, 112, 113, 114, 115, 116, 118, 119, 120, 121, 122, 124, 125, 126, 127, 128, 130, 131, 132, 133, 134, 136, 137, 138, 139, 140, 142, 143, 144, 145, 146, 148, 149, 150, 151, 152])
theorem ct_33 (G0 : pj_G) (hI : pj_Inv G0) : pj_Y 2 33 [.ref 53, .ref 21] G0 (fun v G' => v = none ∧ pj_Inv G' ∧ pj_kpt kc_33 G0 G') := by
  refine pj_Y_X (M := pj_m33) rfl rfl (Nat.le_of_ble_eq_true rfl) ?_
  have hK : pj_kpt kc_33 G0 G0 := pj_kpt_r _ _
  show pj_X _ _ G0 0 [(0, .ref 53), (1, .ref 21)] [] _
  refine pj_X_of (fun r h => pj_R_to (G0, 1, [(0, .ref 53), (1, .ref 21)], [.ref 53], 0, 0) 1 2 (fun _ => rfl) h) ?_
  refine pj_X_of (fun r h => pj_T_gr hI rfl rfl rfl h) ?_
  refine pj_X_of (fun r h => pj_R_to (G0, 5, [(0, .ref 53), (1, .ref 21)], [.ref 53, .ref 54], 0, 0) 5 2 (fun _ => rfl) h) ?_
  refine pj_X_of (fun r h => pj_T_gi hI rfl rfl h) ?_
  show pj_X _ _ G0 8 [(0, .ref 53), (1, .ref 21)] [.int (pj_fi G0 53 1), .ref 54] _
  obtain ⟨y1, hy1⟩ : ∃ z : Int32, z = pj_fi G0 53 1 := ⟨_, rfl⟩
  rw [← hy1]
  have ey1 : (pj_fi G0 53 1).toInt = y1.toInt := by rw [hy1]
  have ry1 : (0 : Int) ≤ y1.toInt ∧ y1.toInt ≤ 15 := by rw [hy1]; exact hI.2.1 53 1 (0, 15) rfl
  by_cases t2 : y1.toInt = 0
  · refine pj_X_aa hI rfl rfl (k := 0) (by show _ = ((0 : Nat) : Int); omega) (by decide) rfl ?_
    refine pj_X_of (fun r h => pj_R_to (G0, 10, [(0, .ref 53), (1, .ref 21)], [.ref 21, .ref 57], 0, 0) 10 2 (fun _ => rfl) h) ?_
    refine pj_X_ca (vs := [.ref 57, .ref 21]) rfl (fun _ => rfl) ⟨Nat.le_of_ble_eq_true rfl, Nat.le_of_ble_eq_true rfl, pj_T_rcv hI rfl⟩ ⟨rfl, rfl⟩ (pj_Y_up (by decide) (ct_68_57_21x G0 hI)) ?_
    rintro _ G4 ⟨rfl, iG4, jG4, eG4, fy3⟩
    replace eG4 := eG4 _ rfl
    have kG4 : pj_kpt kc_33 G0 G4 := pj_kpt_t hK (pj_kpt_s jG4 rfl)
    show pj_X _ _ G4 13 [(0, .ref 53), (1, .ref 21)] [] _
    exact pj_X_rt rfl rfl ⟨rfl, iG4, kG4⟩
  by_cases t5 : y1.toInt = 1
  · refine pj_X_aa hI rfl rfl (k := 1) (by show _ = ((1 : Nat) : Int); omega) (by decide) rfl ?_
    refine pj_X_of (fun r h => pj_R_to (G0, 10, [(0, .ref 53), (1, .ref 21)], [.ref 21, .ref 63], 0, 0) 10 2 (fun _ => rfl) h) ?_
    refine pj_X_ca (vs := [.ref 63, .ref 21]) rfl (fun _ => rfl) ⟨Nat.le_of_ble_eq_true rfl, Nat.le_of_ble_eq_true rfl, pj_T_rcv hI rfl⟩ ⟨rfl, rfl⟩ (pj_Y_up (by decide) (ct_68_63_21x G0 hI)) ?_
    rintro _ G7 ⟨rfl, iG7, jG7, eG7, fy6⟩
    replace eG7 := eG7 _ rfl
    have kG7 : pj_kpt kc_33 G0 G7 := pj_kpt_t hK (pj_kpt_s jG7 rfl)
    show pj_X _ _ G7 13 [(0, .ref 53), (1, .ref 21)] [] _
    exact pj_X_rt rfl rfl ⟨rfl, iG7, kG7⟩
  by_cases t8 : y1.toInt = 2
  · refine pj_X_aa hI rfl rfl (k := 2) (by show _ = ((2 : Nat) : Int); omega) (by decide) rfl ?_
    refine pj_X_of (fun r h => pj_R_to (G0, 10, [(0, .ref 53), (1, .ref 21)], [.ref 21, .ref 69], 0, 0) 10 2 (fun _ => rfl) h) ?_
    refine pj_X_ca (vs := [.ref 69, .ref 21]) rfl (fun _ => rfl) ⟨Nat.le_of_ble_eq_true rfl, Nat.le_of_ble_eq_true rfl, pj_T_rcv hI rfl⟩ ⟨rfl, rfl⟩ (pj_Y_up (by decide) (ct_68_69_21x G0 hI)) ?_
    rintro _ G10 ⟨rfl, iG10, jG10, eG10, fy9⟩
    replace eG10 := eG10 _ rfl
    have kG10 : pj_kpt kc_33 G0 G10 := pj_kpt_t hK (pj_kpt_s jG10 rfl)
    show pj_X _ _ G10 13 [(0, .ref 53), (1, .ref 21)] [] _
    exact pj_X_rt rfl rfl ⟨rfl, iG10, kG10⟩
  by_cases t11 : y1.toInt = 3
  · refine pj_X_aa hI rfl rfl (k := 3) (by show _ = ((3 : Nat) : Int); omega) (by decide) rfl ?_
    refine pj_X_of (fun r h => pj_R_to (G0, 10, [(0, .ref 53), (1, .ref 21)], [.ref 21, .ref 75], 0, 0) 10 2 (fun _ => rfl) h) ?_
    refine pj_X_ca (vs := [.ref 75, .ref 21]) rfl (fun _ => rfl) ⟨Nat.le_of_ble_eq_true rfl, Nat.le_of_ble_eq_true rfl, pj_T_rcv hI rfl⟩ ⟨rfl, rfl⟩ (pj_Y_up (by decide) (ct_68_75_21x G0 hI)) ?_
    rintro _ G13 ⟨rfl, iG13, jG13, eG13, fy12⟩
    replace eG13 := eG13 _ rfl
    have kG13 : pj_kpt kc_33 G0 G13 := pj_kpt_t hK (pj_kpt_s jG13 rfl)
    show pj_X _ _ G13 13 [(0, .ref 53), (1, .ref 21)] [] _
    exact pj_X_rt rfl rfl ⟨rfl, iG13, kG13⟩
  by_cases t14 : y1.toInt = 4
  · refine pj_X_aa hI rfl rfl (k := 4) (by show _ = ((4 : Nat) : Int); omega) (by decide) rfl ?_
    refine pj_X_of (fun r h => pj_R_to (G0, 10, [(0, .ref 53), (1, .ref 21)], [.ref 21, .ref 81], 0, 0) 10 2 (fun _ => rfl) h) ?_
    refine pj_X_ca (vs := [.ref 81, .ref 21]) rfl (fun _ => rfl) ⟨Nat.le_of_ble_eq_true rfl, Nat.le_of_ble_eq_true rfl, pj_T_rcv hI rfl⟩ ⟨rfl, rfl⟩ (pj_Y_up (by decide) (ct_68_81_21x G0 hI)) ?_
    rintro _ G16 ⟨rfl, iG16, jG16, eG16, fy15⟩
    replace eG16 := eG16 _ rfl
    have kG16 : pj_kpt kc_33 G0 G16 := pj_kpt_t hK (pj_kpt_s jG16 rfl)
    show pj_X _ _ G16 13 [(0, .ref 53), (1, .ref 21)] [] _
    exact pj_X_rt rfl rfl ⟨rfl, iG16, kG16⟩
  by_cases t17 : y1.toInt = 5
  · refine pj_X_aa hI rfl rfl (k := 5) (by show _ = ((5 : Nat) : Int); omega) (by decide) rfl ?_
    refine pj_X_of (fun r h => pj_R_to (G0, 10, [(0, .ref 53), (1, .ref 21)], [.ref 21, .ref 87], 0, 0) 10 2 (fun _ => rfl) h) ?_
    refine pj_X_ca (vs := [.ref 87, .ref 21]) rfl (fun _ => rfl) ⟨Nat.le_of_ble_eq_true rfl, Nat.le_of_ble_eq_true rfl, pj_T_rcv hI rfl⟩ ⟨rfl, rfl⟩ (pj_Y_up (by decide) (ct_68_87_21x G0 hI)) ?_
    rintro _ G19 ⟨rfl, iG19, jG19, eG19, fy18⟩
    replace eG19 := eG19 _ rfl
    have kG19 : pj_kpt kc_33 G0 G19 := pj_kpt_t hK (pj_kpt_s jG19 rfl)
    show pj_X _ _ G19 13 [(0, .ref 53), (1, .ref 21)] [] _
    exact pj_X_rt rfl rfl ⟨rfl, iG19, kG19⟩
  by_cases t20 : y1.toInt = 6
  · refine pj_X_aa hI rfl rfl (k := 6) (by show _ = ((6 : Nat) : Int); omega) (by decide) rfl ?_
    refine pj_X_of (fun r h => pj_R_to (G0, 10, [(0, .ref 53), (1, .ref 21)], [.ref 21, .ref 93], 0, 0) 10 2 (fun _ => rfl) h) ?_
    refine pj_X_ca (vs := [.ref 93, .ref 21]) rfl (fun _ => rfl) ⟨Nat.le_of_ble_eq_true rfl, Nat.le_of_ble_eq_true rfl, pj_T_rcv hI rfl⟩ ⟨rfl, rfl⟩ (pj_Y_up (by decide) (ct_68_93_21x G0 hI)) ?_
    rintro _ G22 ⟨rfl, iG22, jG22, eG22, fy21⟩
    replace eG22 := eG22 _ rfl
    have kG22 : pj_kpt kc_33 G0 G22 := pj_kpt_t hK (pj_kpt_s jG22 rfl)
    show pj_X _ _ G22 13 [(0, .ref 53), (1, .ref 21)] [] _
    exact pj_X_rt rfl rfl ⟨rfl, iG22, kG22⟩
  by_cases t23 : y1.toInt = 7
  · refine pj_X_aa hI rfl rfl (k := 7) (by show _ = ((7 : Nat) : Int); omega) (by decide) rfl ?_
    refine pj_X_of (fun r h => pj_R_to (G0, 10, [(0, .ref 53), (1, .ref 21)], [.ref 21, .ref 99], 0, 0) 10 2 (fun _ => rfl) h) ?_
    refine pj_X_ca (vs := [.ref 99, .ref 21]) rfl (fun _ => rfl) ⟨Nat.le_of_ble_eq_true rfl, Nat.le_of_ble_eq_true rfl, pj_T_rcv hI rfl⟩ ⟨rfl, rfl⟩ (pj_Y_up (by decide) (ct_68_99_21x G0 hI)) ?_
    rintro _ G25 ⟨rfl, iG25, jG25, eG25, fy24⟩
    replace eG25 := eG25 _ rfl
    have kG25 : pj_kpt kc_33 G0 G25 := pj_kpt_t hK (pj_kpt_s jG25 rfl)
    show pj_X _ _ G25 13 [(0, .ref 53), (1, .ref 21)] [] _
    exact pj_X_rt rfl rfl ⟨rfl, iG25, kG25⟩
  by_cases t26 : y1.toInt = 8
  · refine pj_X_aa hI rfl rfl (k := 8) (by show _ = ((8 : Nat) : Int); omega) (by decide) rfl ?_
    refine pj_X_of (fun r h => pj_R_to (G0, 10, [(0, .ref 53), (1, .ref 21)], [.ref 21, .ref 105], 0, 0) 10 2 (fun _ => rfl) h) ?_
    refine pj_X_ca (vs := [.ref 105, .ref 21]) rfl (fun _ => rfl) ⟨Nat.le_of_ble_eq_true rfl, Nat.le_of_ble_eq_true rfl, pj_T_rcv hI rfl⟩ ⟨rfl, rfl⟩ (pj_Y_up (by decide) (ct_68_105_21x G0 hI)) ?_
    rintro _ G28 ⟨rfl, iG28, jG28, eG28, fy27⟩
    replace eG28 := eG28 _ rfl
    have kG28 : pj_kpt kc_33 G0 G28 := pj_kpt_t hK (pj_kpt_s jG28 rfl)
    show pj_X _ _ G28 13 [(0, .ref 53), (1, .ref 21)] [] _
    exact pj_X_rt rfl rfl ⟨rfl, iG28, kG28⟩
  by_cases t29 : y1.toInt = 9
  · refine pj_X_aa hI rfl rfl (k := 9) (by show _ = ((9 : Nat) : Int); omega) (by decide) rfl ?_
    refine pj_X_of (fun r h => pj_R_to (G0, 10, [(0, .ref 53), (1, .ref 21)], [.ref 21, .ref 111], 0, 0) 10 2 (fun _ => rfl) h) ?_
    refine pj_X_ca (vs := [.ref 111, .ref 21]) rfl (fun _ => rfl) ⟨Nat.le_of_ble_eq_true rfl, Nat.le_of_ble_eq_true rfl, pj_T_rcv hI rfl⟩ ⟨rfl, rfl⟩ (pj_Y_up (by decide) (ct_68_111_21x G0 hI)) ?_
    rintro _ G31 ⟨rfl, iG31, jG31, eG31, fy30⟩
    replace eG31 := eG31 _ rfl
    have kG31 : pj_kpt kc_33 G0 G31 := pj_kpt_t hK (pj_kpt_s jG31 rfl)
    show pj_X _ _ G31 13 [(0, .ref 53), (1, .ref 21)] [] _
    exact pj_X_rt rfl rfl ⟨rfl, iG31, kG31⟩
  by_cases t32 : y1.toInt = 10
  · refine pj_X_aa hI rfl rfl (k := 10) (by show _ = ((10 : Nat) : Int); omega) (by decide) rfl ?_
    refine pj_X_of (fun r h => pj_R_to (G0, 10, [(0, .ref 53), (1, .ref 21)], [.ref 21, .ref 117], 0, 0) 10 2 (fun _ => rfl) h) ?_
    refine pj_X_ca (vs := [.ref 117, .ref 21]) rfl (fun _ => rfl) ⟨Nat.le_of_ble_eq_true rfl, Nat.le_of_ble_eq_true rfl, pj_T_rcv hI rfl⟩ ⟨rfl, rfl⟩ (pj_Y_up (by decide) (ct_68_117_21x G0 hI)) ?_
    rintro _ G34 ⟨rfl, iG34, jG34, eG34, fy33⟩
    replace eG34 := eG34 _ rfl
    have kG34 : pj_kpt kc_33 G0 G34 := pj_kpt_t hK (pj_kpt_s jG34 rfl)
    show pj_X _ _ G34 13 [(0, .ref 53), (1, .ref 21)] [] _
    exact pj_X_rt rfl rfl ⟨rfl, iG34, kG34⟩
  by_cases t35 : y1.toInt = 11
  · refine pj_X_aa hI rfl rfl (k := 11) (by show _ = ((11 : Nat) : Int); omega) (by decide) rfl ?_
    refine pj_X_of (fun r h => pj_R_to (G0, 10, [(0, .ref 53), (1, .ref 21)], [.ref 21, .ref 123], 0, 0) 10 2 (fun _ => rfl) h) ?_
    refine pj_X_ca (vs := [.ref 123, .ref 21]) rfl (fun _ => rfl) ⟨Nat.le_of_ble_eq_true rfl, Nat.le_of_ble_eq_true rfl, pj_T_rcv hI rfl⟩ ⟨rfl, rfl⟩ (pj_Y_up (by decide) (ct_68_123_21x G0 hI)) ?_
    rintro _ G37 ⟨rfl, iG37, jG37, eG37, fy36⟩
    replace eG37 := eG37 _ rfl
    have kG37 : pj_kpt kc_33 G0 G37 := pj_kpt_t hK (pj_kpt_s jG37 rfl)
    show pj_X _ _ G37 13 [(0, .ref 53), (1, .ref 21)] [] _
    exact pj_X_rt rfl rfl ⟨rfl, iG37, kG37⟩
  by_cases t38 : y1.toInt = 12
  · refine pj_X_aa hI rfl rfl (k := 12) (by show _ = ((12 : Nat) : Int); omega) (by decide) rfl ?_
    refine pj_X_of (fun r h => pj_R_to (G0, 10, [(0, .ref 53), (1, .ref 21)], [.ref 21, .ref 129], 0, 0) 10 2 (fun _ => rfl) h) ?_
    refine pj_X_ca (vs := [.ref 129, .ref 21]) rfl (fun _ => rfl) ⟨Nat.le_of_ble_eq_true rfl, Nat.le_of_ble_eq_true rfl, pj_T_rcv hI rfl⟩ ⟨rfl, rfl⟩ (pj_Y_up (by decide) (ct_68_129_21x G0 hI)) ?_
    rintro _ G40 ⟨rfl, iG40, jG40, eG40, fy39⟩
    replace eG40 := eG40 _ rfl
    have kG40 : pj_kpt kc_33 G0 G40 := pj_kpt_t hK (pj_kpt_s jG40 rfl)
    show pj_X _ _ G40 13 [(0, .ref 53), (1, .ref 21)] [] _
    exact pj_X_rt rfl rfl ⟨rfl, iG40, kG40⟩
  by_cases t41 : y1.toInt = 13
  · refine pj_X_aa hI rfl rfl (k := 13) (by show _ = ((13 : Nat) : Int); omega) (by decide) rfl ?_
    refine pj_X_of (fun r h => pj_R_to (G0, 10, [(0, .ref 53), (1, .ref 21)], [.ref 21, .ref 135], 0, 0) 10 2 (fun _ => rfl) h) ?_
    refine pj_X_ca (vs := [.ref 135, .ref 21]) rfl (fun _ => rfl) ⟨Nat.le_of_ble_eq_true rfl, Nat.le_of_ble_eq_true rfl, pj_T_rcv hI rfl⟩ ⟨rfl, rfl⟩ (pj_Y_up (by decide) (ct_68_135_21x G0 hI)) ?_
    rintro _ G43 ⟨rfl, iG43, jG43, eG43, fy42⟩
    replace eG43 := eG43 _ rfl
    have kG43 : pj_kpt kc_33 G0 G43 := pj_kpt_t hK (pj_kpt_s jG43 rfl)
    show pj_X _ _ G43 13 [(0, .ref 53), (1, .ref 21)] [] _
    exact pj_X_rt rfl rfl ⟨rfl, iG43, kG43⟩
  by_cases t44 : y1.toInt = 14
  · refine pj_X_aa hI rfl rfl (k := 14) (by show _ = ((14 : Nat) : Int); omega) (by decide) rfl ?_
    refine pj_X_of (fun r h => pj_R_to (G0, 10, [(0, .ref 53), (1, .ref 21)], [.ref 21, .ref 141], 0, 0) 10 2 (fun _ => rfl) h) ?_
    refine pj_X_ca (vs := [.ref 141, .ref 21]) rfl (fun _ => rfl) ⟨Nat.le_of_ble_eq_true rfl, Nat.le_of_ble_eq_true rfl, pj_T_rcv hI rfl⟩ ⟨rfl, rfl⟩ (pj_Y_up (by decide) (ct_68_141_21x G0 hI)) ?_
    rintro _ G46 ⟨rfl, iG46, jG46, eG46, fy45⟩
    replace eG46 := eG46 _ rfl
    have kG46 : pj_kpt kc_33 G0 G46 := pj_kpt_t hK (pj_kpt_s jG46 rfl)
    show pj_X _ _ G46 13 [(0, .ref 53), (1, .ref 21)] [] _
    exact pj_X_rt rfl rfl ⟨rfl, iG46, kG46⟩
  · refine pj_X_aa hI rfl rfl (k := 15) (by show _ = ((15 : Nat) : Int); omega) (by decide) rfl ?_
    refine pj_X_of (fun r h => pj_R_to (G0, 10, [(0, .ref 53), (1, .ref 21)], [.ref 21, .ref 147], 0, 0) 10 2 (fun _ => rfl) h) ?_
    refine pj_X_ca (vs := [.ref 147, .ref 21]) rfl (fun _ => rfl) ⟨Nat.le_of_ble_eq_true rfl, Nat.le_of_ble_eq_true rfl, pj_T_rcv hI rfl⟩ ⟨rfl, rfl⟩ (pj_Y_up (by decide) (ct_68_147_21x G0 hI)) ?_
    rintro _ G48 ⟨rfl, iG48, jG48, eG48, fy47⟩
    replace eG48 := eG48 _ rfl
    have kG48 : pj_kpt kc_33 G0 G48 := pj_kpt_t hK (pj_kpt_s jG48 rfl)
    show pj_X _ _ G48 13 [(0, .ref 53), (1, .ref 21)] [] _
    exact pj_X_rt rfl rfl ⟨rfl, iG48, kG48⟩
def kc_38 : pj_KT := ([(153, 0), (153, 5), (153, 7), (153, 8), (159, 0), (159, 5), (159, 7), (159, 8), (165, 0), (165, 5), (165, 7), (165, 8)], [56, 153, 154, 155, 156, 157, 158, 159, 160, 161, 162, 163, 164, 165, 166, 167, 168, 169, 170], [56, 154, 155, 156, 157, 158, 160, 161, 162, 163, 164, 166, 167, 168, 169, 170])
theorem ct_38 (G0 : pj_G) (hI : pj_Inv G0) (i : Int32) : pj_Y 2 38 [.ref 53, .int i, .ref 21] G0 (fun v G' => ∃ y : Int32, v = some (.int y) ∧ pj_Inv G' ∧ pj_kpt kc_38 G0 G' ∧ ((0 : Int) ≤ y.toInt ∧ y.toInt ≤ 1)) := by
  have c0_ : (Int32.ofInt 0).toInt = 0 := by decide
  have c1_ : (Int32.ofInt 1).toInt = 1 := by decide
  have c2_ : (Int32.ofInt 3).toInt = 3 := by decide
  refine pj_Y_X (M := pj_m38) rfl rfl (Nat.le_of_ble_eq_true rfl) ?_
  have hK : pj_kpt kc_38 G0 G0 := pj_kpt_r _ _
  show pj_X _ _ G0 0 [(0, .ref 53), (1, .int i), (2, .ref 21)] [] _
  refine pj_X_of (fun r h => pj_R_to (G0, 1, [(0, .ref 53), (1, .int i), (2, .ref 21)], [.int i], 0, 0) 1 2 (fun _ => rfl) h) ?_
  cases b1 : pj_c1 .lt i 0 with
  | true =>
    have ub1 := pj_u0_ltT b1
    refine pj_X_of (fun r h => pj_R_ifT 9 rfl rfl b1 h) ?_
    refine pj_X_of (fun r h => pj_R_to (G0, 10, [(0, .ref 53), (1, .int i), (2, .ref 21)], [.int (Int32.ofInt 0)], 0, 0) 10 2 (fun _ => rfl) h) ?_
    exact pj_X_rt rfl rfl ⟨_, rfl, hI, hK, ⟨by omega, by omega⟩⟩
  | false =>
    have ub1 := pj_u0_ltF b1
    refine pj_X_of (fun r h => pj_R_ifF rfl b1 h) ?_
    refine pj_X_of (fun r h => pj_R_to (G0, 6, [(0, .ref 53), (1, .int i), (2, .ref 21)], [.int (Int32.ofInt 3), .int i], 0, 0) 6 3 (fun _ => rfl) h) ?_
    cases b2 : pj_c1 .lt i (Int32.ofInt 3) with
    | true =>
      have ub2 := pj_u_ltT b2
      refine pj_X_of (fun r h => pj_R_icT 11 rfl rfl b2 h) ?_
      refine pj_X_of (fun r h => pj_R_to (G0, 12, [(0, .ref 53), (1, .int i), (2, .ref 21)], [.ref 53], 0, 0) 12 2 (fun _ => rfl) h) ?_
      refine pj_X_of (fun r h => pj_T_gr hI rfl rfl rfl h) ?_
      refine pj_X_of (fun r h => pj_R_to (G0, 16, [(0, .ref 53), (1, .int i), (2, .ref 21)], [.int i, .ref 55], 0, 0) 16 2 (fun _ => rfl) h) ?_
      by_cases t3 : i.toInt = 0
      · refine pj_X_aa hI rfl rfl (k := 0) (by show _ = ((0 : Nat) : Int); omega) (by decide) rfl ?_
        refine pj_X_of (fun r h => pj_R_to (G0, 18, [(0, .ref 53), (1, .int i), (2, .ref 21)], [.ref 21, .ref 153], 0, 0) 18 2 (fun _ => rfl) h) ?_
        refine pj_X_ca (vs := [.ref 153, .ref 21]) rfl (fun _ => rfl) ⟨Nat.le_of_ble_eq_true rfl, Nat.le_of_ble_eq_true rfl, pj_T_rcv hI rfl⟩ ⟨rfl, rfl⟩ (pj_Y_up (by decide) (ct_68_153_21x G0 hI)) ?_
        rintro _ G5 ⟨rfl, iG5, jG5, eG5, fy4⟩
        replace eG5 := eG5 _ rfl
        have kG5 : pj_kpt kc_38 G0 G5 := pj_kpt_t hK (pj_kpt_s jG5 rfl)
        show pj_X _ _ G5 21 [(0, .ref 53), (1, .int i), (2, .ref 21)] [] _
        refine pj_X_of (fun r h => pj_R_to (G5, 22, [(0, .ref 53), (1, .int i), (2, .ref 21)], [.ref 53], 0, 0) 22 2 (fun _ => rfl) h) ?_
        refine pj_X_of (fun r h => pj_T_gr iG5 rfl rfl rfl h) ?_
        refine pj_X_of (fun r h => pj_R_to (G5, 27, [(0, .ref 53), (1, .int i), (2, .ref 21)], [.int (Int32.ofInt 1), .int i, .ref 56], 0, 0) 27 3 (fun _ => rfl) h) ?_
        refine pj_X_of (fun r h => pj_T_bs iG5 rfl rfl (by omega) (by omega) h) ?_
        show pj_X _ _ (pj_wa G5 56 i.toInt.toNat (vp_nar .boolean (Int32.ofInt 1))) 28 [(0, .ref 53), (1, .int i), (2, .ref 21)] [] _
        obtain ⟨G6, hG6⟩ : ∃ H, H = pj_wa G5 56 i.toInt.toNat (vp_nar .boolean (Int32.ofInt 1)) := ⟨_, rfl⟩
        have iG6 : pj_Inv G6 := by rw [hG6]; exact pj_Inv_wb iG5 rfl rfl rfl
        have kG6 : pj_kpt kc_38 G0 G6 := by rw [hG6]; exact pj_kpt_a kG5 rfl
        rw [← hG6]
        refine pj_X_of (fun r h => pj_R_to (G6, 29, [(0, .ref 53), (1, .int i), (2, .ref 21)], [.int (Int32.ofInt 1)], 0, 0) 29 2 (fun _ => rfl) h) ?_
        exact pj_X_rt rfl rfl ⟨_, rfl, iG6, kG6, ⟨by omega, by omega⟩⟩
      by_cases t7 : i.toInt = 1
      · refine pj_X_aa hI rfl rfl (k := 1) (by show _ = ((1 : Nat) : Int); omega) (by decide) rfl ?_
        refine pj_X_of (fun r h => pj_R_to (G0, 18, [(0, .ref 53), (1, .int i), (2, .ref 21)], [.ref 21, .ref 159], 0, 0) 18 2 (fun _ => rfl) h) ?_
        refine pj_X_ca (vs := [.ref 159, .ref 21]) rfl (fun _ => rfl) ⟨Nat.le_of_ble_eq_true rfl, Nat.le_of_ble_eq_true rfl, pj_T_rcv hI rfl⟩ ⟨rfl, rfl⟩ (pj_Y_up (by decide) (ct_68_159_21x G0 hI)) ?_
        rintro _ G9 ⟨rfl, iG9, jG9, eG9, fy8⟩
        replace eG9 := eG9 _ rfl
        have kG9 : pj_kpt kc_38 G0 G9 := pj_kpt_t hK (pj_kpt_s jG9 rfl)
        show pj_X _ _ G9 21 [(0, .ref 53), (1, .int i), (2, .ref 21)] [] _
        refine pj_X_of (fun r h => pj_R_to (G9, 22, [(0, .ref 53), (1, .int i), (2, .ref 21)], [.ref 53], 0, 0) 22 2 (fun _ => rfl) h) ?_
        refine pj_X_of (fun r h => pj_T_gr iG9 rfl rfl rfl h) ?_
        refine pj_X_of (fun r h => pj_R_to (G9, 27, [(0, .ref 53), (1, .int i), (2, .ref 21)], [.int (Int32.ofInt 1), .int i, .ref 56], 0, 0) 27 3 (fun _ => rfl) h) ?_
        refine pj_X_of (fun r h => pj_T_bs iG9 rfl rfl (by omega) (by omega) h) ?_
        show pj_X _ _ (pj_wa G9 56 i.toInt.toNat (vp_nar .boolean (Int32.ofInt 1))) 28 [(0, .ref 53), (1, .int i), (2, .ref 21)] [] _
        obtain ⟨G10, hG10⟩ : ∃ H, H = pj_wa G9 56 i.toInt.toNat (vp_nar .boolean (Int32.ofInt 1)) := ⟨_, rfl⟩
        have iG10 : pj_Inv G10 := by rw [hG10]; exact pj_Inv_wb iG9 rfl rfl rfl
        have kG10 : pj_kpt kc_38 G0 G10 := by rw [hG10]; exact pj_kpt_a kG9 rfl
        rw [← hG10]
        refine pj_X_of (fun r h => pj_R_to (G10, 29, [(0, .ref 53), (1, .int i), (2, .ref 21)], [.int (Int32.ofInt 1)], 0, 0) 29 2 (fun _ => rfl) h) ?_
        exact pj_X_rt rfl rfl ⟨_, rfl, iG10, kG10, ⟨by omega, by omega⟩⟩
      · refine pj_X_aa hI rfl rfl (k := 2) (by show _ = ((2 : Nat) : Int); omega) (by decide) rfl ?_
        refine pj_X_of (fun r h => pj_R_to (G0, 18, [(0, .ref 53), (1, .int i), (2, .ref 21)], [.ref 21, .ref 165], 0, 0) 18 2 (fun _ => rfl) h) ?_
        refine pj_X_ca (vs := [.ref 165, .ref 21]) rfl (fun _ => rfl) ⟨Nat.le_of_ble_eq_true rfl, Nat.le_of_ble_eq_true rfl, pj_T_rcv hI rfl⟩ ⟨rfl, rfl⟩ (pj_Y_up (by decide) (ct_68_165_21x G0 hI)) ?_
        rintro _ G12 ⟨rfl, iG12, jG12, eG12, fy11⟩
        replace eG12 := eG12 _ rfl
        have kG12 : pj_kpt kc_38 G0 G12 := pj_kpt_t hK (pj_kpt_s jG12 rfl)
        show pj_X _ _ G12 21 [(0, .ref 53), (1, .int i), (2, .ref 21)] [] _
        refine pj_X_of (fun r h => pj_R_to (G12, 22, [(0, .ref 53), (1, .int i), (2, .ref 21)], [.ref 53], 0, 0) 22 2 (fun _ => rfl) h) ?_
        refine pj_X_of (fun r h => pj_T_gr iG12 rfl rfl rfl h) ?_
        refine pj_X_of (fun r h => pj_R_to (G12, 27, [(0, .ref 53), (1, .int i), (2, .ref 21)], [.int (Int32.ofInt 1), .int i, .ref 56], 0, 0) 27 3 (fun _ => rfl) h) ?_
        refine pj_X_of (fun r h => pj_T_bs iG12 rfl rfl (by omega) (by omega) h) ?_
        show pj_X _ _ (pj_wa G12 56 i.toInt.toNat (vp_nar .boolean (Int32.ofInt 1))) 28 [(0, .ref 53), (1, .int i), (2, .ref 21)] [] _
        obtain ⟨G13, hG13⟩ : ∃ H, H = pj_wa G12 56 i.toInt.toNat (vp_nar .boolean (Int32.ofInt 1)) := ⟨_, rfl⟩
        have iG13 : pj_Inv G13 := by rw [hG13]; exact pj_Inv_wb iG12 rfl rfl rfl
        have kG13 : pj_kpt kc_38 G0 G13 := by rw [hG13]; exact pj_kpt_a kG12 rfl
        rw [← hG13]
        refine pj_X_of (fun r h => pj_R_to (G13, 29, [(0, .ref 53), (1, .int i), (2, .ref 21)], [.int (Int32.ofInt 1)], 0, 0) 29 2 (fun _ => rfl) h) ?_
        exact pj_X_rt rfl rfl ⟨_, rfl, iG13, kG13, ⟨by omega, by omega⟩⟩
    | false =>
      have ub2 := pj_u_ltF b2
      refine pj_X_of (fun r h => pj_R_icF rfl b2 h) ?_
      refine pj_X_of (fun r h => pj_R_to (G0, 10, [(0, .ref 53), (1, .int i), (2, .ref 21)], [.int (Int32.ofInt 0)], 0, 0) 10 2 (fun _ => rfl) h) ?_
      exact pj_X_rt rfl rfl ⟨_, rfl, hI, hK, ⟨by omega, by omega⟩⟩
