def kc_33n : pj_KT := ([(57, 0), (57, 5), (57, 7), (57, 8), (63, 0), (63, 5), (63, 7), (63, 8), (69, 0), (69, 5), (69, 7), (69, 8), (75, 0), (75, 5), (75, 7), (75, 8), (81, 0), (81, 5), (81, 7), (81, 8), (87, 0), (87, 5), (87, 7), (87, 8), (93, 0), (93, 5), (93, 7), (93, 8), (99, 0), (99, 5), (99, 7), (99, 8), (105, 0), (105, 5), (105, 7), (105, 8), (111, 0), (111, 5), (111, 7), (111, 8), (117, 0), (117, 5), (117, 7), (117, 8), (123, 0), (123, 5), (123, 7), (123, 8), (129, 0), (129, 5), (129, 7), (129, 8), (135, 0), (135, 5), (135, 7), (135, 8), (141, 0), (141, 5), (141, 7), (141, 8), (147, 0), (147, 5), (147, 7), (147, 8)], [57, 58, 59, 60, 61, 62, 63, 64, 65, 66, 67, 68, 69, 70, 71, 72, 73, 74, 75, 76, 77, 78, 79, 80, 81, 82, 83, 84, 85, 86, 87, 88, 89, 90, 91, 92, 93, 94, 95, 96, 97, 98, 99, 100, 101, 102, 103, 104, 105, 106, 107, 108, 109, 110, 111, 112, 113, 114, 115, 116, 117, 118, 119, 120, 121, 122, 123, 124, 125, 126, 127, 128, 129, 130, 131, 132, 133, 134, 135, 136, 137, 138, 139, 140, 141, 142, 143, 144, 145, 146, 147, 148, 149, 150, 151, 152], [58, 59, 60, 61, 62, 64, 65, 66, 67, 68, 70, 71, 72, 73, 74, 76, 77, 78, 79, 80, 82, 83, 84, 85, 86, 88, 89, 90, 91, 92, 94, 95, 96, 97, 98, 100, 101, 102, 103, 104, 106, 107, 108, 109, 110, 112, 113, 114, 115, 116, 118, 119, 120, 121, 122, 124, 125, 126, 127, 128, 130, 131, 132, 133, 134, 136, 137, 138, 139, 140, 142, 143, 144, 145, 146, 148, 149, 150, 151, 152])
theorem ct_33n (G0 : pj_G) (hI : pj_Inv G0) : pj_Y 2 33 [.ref 53, .ref 21] G0 (fun v G' => v = none ∧ pj_Inv G' ∧ pj_kpt kc_33n G0 G' ∧ (mr_nt G0 G')) := by
  refine pj_Y_X (M := pj_m33) rfl rfl (Nat.le_of_ble_eq_true rfl) ?_
  have hK : pj_kpt kc_33n G0 G0 := pj_kpt_r _ _
  show pj_X _ _ G0 0 [(0, .ref 53), (1, .ref 21)] [] _
  obtain ⟨y1, hy1⟩ : ∃ z : Int32, z = pj_fi G0 53 1 := ⟨_, rfl⟩
  have ey1 : (pj_fi G0 53 1).toInt = y1.toInt := by rw [hy1]
  have ry1 : (0 : Int) ≤ y1.toInt ∧ y1.toInt ≤ 15 := by rw [hy1]; exact hI.2.1 53 1 (0, 15) rfl
  refine pj_X_of (fun r h => pj_R_to (G0, 1, [(0, .ref 53), (1, .ref 21)], [.ref 53], 0, 0) 1 2 (fun _ => rfl) h) ?_
  refine pj_X_of (fun r h => pj_T_gr hI rfl rfl rfl h) ?_
  refine pj_X_of (fun r h => pj_R_to (G0, 5, [(0, .ref 53), (1, .ref 21)], [.ref 53, .ref 54], 0, 0) 5 2 (fun _ => rfl) h) ?_
  refine pj_X_of (fun r h => pj_T_gi hI rfl rfl h) ?_
  show pj_X _ _ G0 8 [(0, .ref 53), (1, .ref 21)] [.int (pj_fi G0 53 1), .ref 54] _
  refine pj_X_eqi (show pj_fi G0 53 1 = y1 from hy1.symm) ?_
  by_cases t2 : y1.toInt = 0
  · refine pj_X_aa hI rfl rfl (k := 0) (by show _ = ((0 : Nat) : Int); omega) (by decide) rfl ?_
    refine pj_X_of (fun r h => pj_R_to (G0, 10, [(0, .ref 53), (1, .ref 21)], [.ref 21, .ref 57], 0, 0) 10 2 (fun _ => rfl) h) ?_
    have q3 : (pj_fi G0 53 1).toInt = y1.toInt := by rw [show pj_fi G0 53 1 = y1 from hy1.symm]
    refine pj_X_ca (vs := [.ref 57, .ref 21]) rfl (fun _ => rfl) ⟨Nat.le_of_ble_eq_true rfl, Nat.le_of_ble_eq_true rfl, pj_T_rcv hI rfl⟩ ⟨rfl, rfl⟩ (pj_Y_up (by decide) (ct_68_57_21x G0 hI)) ?_
    rintro _ G5 ⟨rfl, iG5, jG5, eG5, fy4⟩
    replace eG5 := eG5 _ rfl
    have kG5 : pj_kpt kc_33n G0 G5 := pj_kpt_t hK (pj_kpt_s jG5 rfl)
    have q6 : (pj_fi G5 53 1).toInt = (pj_fi G0 53 1).toInt := by rw [jG5.1 (53, 1) (by decide)]
    obtain ⟨y7, hy7⟩ : ∃ z : Int32, z = pj_fi G5 53 1 := ⟨_, rfl⟩
    have ey7 : (pj_fi G5 53 1).toInt = y7.toInt := by rw [hy7]
    have ry7 : (0 : Int) ≤ y7.toInt ∧ y7.toInt ≤ 15 := by rw [hy7]; exact iG5.2.1 53 1 (0, 15) rfl
    show pj_X _ _ G5 13 [(0, .ref 53), (1, .ref 21)] [] _
    have q8 : (pj_fi G5 53 1).toInt = y7.toInt := by rw [show pj_fi G5 53 1 = y7 from hy7.symm]
    exact pj_X_rt rfl rfl ⟨rfl, iG5, kG5, mr_nt1 0 (by omega) jG5 rfl eG5⟩
  by_cases t9 : y1.toInt = 1
  · refine pj_X_aa hI rfl rfl (k := 1) (by show _ = ((1 : Nat) : Int); omega) (by decide) rfl ?_
    refine pj_X_of (fun r h => pj_R_to (G0, 10, [(0, .ref 53), (1, .ref 21)], [.ref 21, .ref 63], 0, 0) 10 2 (fun _ => rfl) h) ?_
    have q10 : (pj_fi G0 53 1).toInt = y1.toInt := by rw [show pj_fi G0 53 1 = y1 from hy1.symm]
    refine pj_X_ca (vs := [.ref 63, .ref 21]) rfl (fun _ => rfl) ⟨Nat.le_of_ble_eq_true rfl, Nat.le_of_ble_eq_true rfl, pj_T_rcv hI rfl⟩ ⟨rfl, rfl⟩ (pj_Y_up (by decide) (ct_68_63_21x G0 hI)) ?_
    rintro _ G12 ⟨rfl, iG12, jG12, eG12, fy11⟩
    replace eG12 := eG12 _ rfl
    have kG12 : pj_kpt kc_33n G0 G12 := pj_kpt_t hK (pj_kpt_s jG12 rfl)
    have q13 : (pj_fi G12 53 1).toInt = (pj_fi G0 53 1).toInt := by rw [jG12.1 (53, 1) (by decide)]
    obtain ⟨y14, hy14⟩ : ∃ z : Int32, z = pj_fi G12 53 1 := ⟨_, rfl⟩
    have ey14 : (pj_fi G12 53 1).toInt = y14.toInt := by rw [hy14]
    have ry14 : (0 : Int) ≤ y14.toInt ∧ y14.toInt ≤ 15 := by rw [hy14]; exact iG12.2.1 53 1 (0, 15) rfl
    show pj_X _ _ G12 13 [(0, .ref 53), (1, .ref 21)] [] _
    have q15 : (pj_fi G12 53 1).toInt = y14.toInt := by rw [show pj_fi G12 53 1 = y14 from hy14.symm]
    exact pj_X_rt rfl rfl ⟨rfl, iG12, kG12, mr_nt1 1 (by omega) jG12 rfl eG12⟩
  by_cases t16 : y1.toInt = 2
  · refine pj_X_aa hI rfl rfl (k := 2) (by show _ = ((2 : Nat) : Int); omega) (by decide) rfl ?_
    refine pj_X_of (fun r h => pj_R_to (G0, 10, [(0, .ref 53), (1, .ref 21)], [.ref 21, .ref 69], 0, 0) 10 2 (fun _ => rfl) h) ?_
    have q17 : (pj_fi G0 53 1).toInt = y1.toInt := by rw [show pj_fi G0 53 1 = y1 from hy1.symm]
    refine pj_X_ca (vs := [.ref 69, .ref 21]) rfl (fun _ => rfl) ⟨Nat.le_of_ble_eq_true rfl, Nat.le_of_ble_eq_true rfl, pj_T_rcv hI rfl⟩ ⟨rfl, rfl⟩ (pj_Y_up (by decide) (ct_68_69_21x G0 hI)) ?_
    rintro _ G19 ⟨rfl, iG19, jG19, eG19, fy18⟩
    replace eG19 := eG19 _ rfl
    have kG19 : pj_kpt kc_33n G0 G19 := pj_kpt_t hK (pj_kpt_s jG19 rfl)
    have q20 : (pj_fi G19 53 1).toInt = (pj_fi G0 53 1).toInt := by rw [jG19.1 (53, 1) (by decide)]
    obtain ⟨y21, hy21⟩ : ∃ z : Int32, z = pj_fi G19 53 1 := ⟨_, rfl⟩
    have ey21 : (pj_fi G19 53 1).toInt = y21.toInt := by rw [hy21]
    have ry21 : (0 : Int) ≤ y21.toInt ∧ y21.toInt ≤ 15 := by rw [hy21]; exact iG19.2.1 53 1 (0, 15) rfl
    show pj_X _ _ G19 13 [(0, .ref 53), (1, .ref 21)] [] _
    have q22 : (pj_fi G19 53 1).toInt = y21.toInt := by rw [show pj_fi G19 53 1 = y21 from hy21.symm]
    exact pj_X_rt rfl rfl ⟨rfl, iG19, kG19, mr_nt1 2 (by omega) jG19 rfl eG19⟩
  by_cases t23 : y1.toInt = 3
  · refine pj_X_aa hI rfl rfl (k := 3) (by show _ = ((3 : Nat) : Int); omega) (by decide) rfl ?_
    refine pj_X_of (fun r h => pj_R_to (G0, 10, [(0, .ref 53), (1, .ref 21)], [.ref 21, .ref 75], 0, 0) 10 2 (fun _ => rfl) h) ?_
    have q24 : (pj_fi G0 53 1).toInt = y1.toInt := by rw [show pj_fi G0 53 1 = y1 from hy1.symm]
    refine pj_X_ca (vs := [.ref 75, .ref 21]) rfl (fun _ => rfl) ⟨Nat.le_of_ble_eq_true rfl, Nat.le_of_ble_eq_true rfl, pj_T_rcv hI rfl⟩ ⟨rfl, rfl⟩ (pj_Y_up (by decide) (ct_68_75_21x G0 hI)) ?_
    rintro _ G26 ⟨rfl, iG26, jG26, eG26, fy25⟩
    replace eG26 := eG26 _ rfl
    have kG26 : pj_kpt kc_33n G0 G26 := pj_kpt_t hK (pj_kpt_s jG26 rfl)
    have q27 : (pj_fi G26 53 1).toInt = (pj_fi G0 53 1).toInt := by rw [jG26.1 (53, 1) (by decide)]
    obtain ⟨y28, hy28⟩ : ∃ z : Int32, z = pj_fi G26 53 1 := ⟨_, rfl⟩
    have ey28 : (pj_fi G26 53 1).toInt = y28.toInt := by rw [hy28]
    have ry28 : (0 : Int) ≤ y28.toInt ∧ y28.toInt ≤ 15 := by rw [hy28]; exact iG26.2.1 53 1 (0, 15) rfl
    show pj_X _ _ G26 13 [(0, .ref 53), (1, .ref 21)] [] _
    have q29 : (pj_fi G26 53 1).toInt = y28.toInt := by rw [show pj_fi G26 53 1 = y28 from hy28.symm]
    exact pj_X_rt rfl rfl ⟨rfl, iG26, kG26, mr_nt1 3 (by omega) jG26 rfl eG26⟩
  by_cases t30 : y1.toInt = 4
  · refine pj_X_aa hI rfl rfl (k := 4) (by show _ = ((4 : Nat) : Int); omega) (by decide) rfl ?_
    refine pj_X_of (fun r h => pj_R_to (G0, 10, [(0, .ref 53), (1, .ref 21)], [.ref 21, .ref 81], 0, 0) 10 2 (fun _ => rfl) h) ?_
    have q31 : (pj_fi G0 53 1).toInt = y1.toInt := by rw [show pj_fi G0 53 1 = y1 from hy1.symm]
    refine pj_X_ca (vs := [.ref 81, .ref 21]) rfl (fun _ => rfl) ⟨Nat.le_of_ble_eq_true rfl, Nat.le_of_ble_eq_true rfl, pj_T_rcv hI rfl⟩ ⟨rfl, rfl⟩ (pj_Y_up (by decide) (ct_68_81_21x G0 hI)) ?_
    rintro _ G33 ⟨rfl, iG33, jG33, eG33, fy32⟩
    replace eG33 := eG33 _ rfl
    have kG33 : pj_kpt kc_33n G0 G33 := pj_kpt_t hK (pj_kpt_s jG33 rfl)
    have q34 : (pj_fi G33 53 1).toInt = (pj_fi G0 53 1).toInt := by rw [jG33.1 (53, 1) (by decide)]
    obtain ⟨y35, hy35⟩ : ∃ z : Int32, z = pj_fi G33 53 1 := ⟨_, rfl⟩
    have ey35 : (pj_fi G33 53 1).toInt = y35.toInt := by rw [hy35]
    have ry35 : (0 : Int) ≤ y35.toInt ∧ y35.toInt ≤ 15 := by rw [hy35]; exact iG33.2.1 53 1 (0, 15) rfl
    show pj_X _ _ G33 13 [(0, .ref 53), (1, .ref 21)] [] _
    have q36 : (pj_fi G33 53 1).toInt = y35.toInt := by rw [show pj_fi G33 53 1 = y35 from hy35.symm]
    exact pj_X_rt rfl rfl ⟨rfl, iG33, kG33, mr_nt1 4 (by omega) jG33 rfl eG33⟩
  by_cases t37 : y1.toInt = 5
  · refine pj_X_aa hI rfl rfl (k := 5) (by show _ = ((5 : Nat) : Int); omega) (by decide) rfl ?_
    refine pj_X_of (fun r h => pj_R_to (G0, 10, [(0, .ref 53), (1, .ref 21)], [.ref 21, .ref 87], 0, 0) 10 2 (fun _ => rfl) h) ?_
    have q38 : (pj_fi G0 53 1).toInt = y1.toInt := by rw [show pj_fi G0 53 1 = y1 from hy1.symm]
    refine pj_X_ca (vs := [.ref 87, .ref 21]) rfl (fun _ => rfl) ⟨Nat.le_of_ble_eq_true rfl, Nat.le_of_ble_eq_true rfl, pj_T_rcv hI rfl⟩ ⟨rfl, rfl⟩ (pj_Y_up (by decide) (ct_68_87_21x G0 hI)) ?_
    rintro _ G40 ⟨rfl, iG40, jG40, eG40, fy39⟩
    replace eG40 := eG40 _ rfl
    have kG40 : pj_kpt kc_33n G0 G40 := pj_kpt_t hK (pj_kpt_s jG40 rfl)
    have q41 : (pj_fi G40 53 1).toInt = (pj_fi G0 53 1).toInt := by rw [jG40.1 (53, 1) (by decide)]
    obtain ⟨y42, hy42⟩ : ∃ z : Int32, z = pj_fi G40 53 1 := ⟨_, rfl⟩
    have ey42 : (pj_fi G40 53 1).toInt = y42.toInt := by rw [hy42]
    have ry42 : (0 : Int) ≤ y42.toInt ∧ y42.toInt ≤ 15 := by rw [hy42]; exact iG40.2.1 53 1 (0, 15) rfl
    show pj_X _ _ G40 13 [(0, .ref 53), (1, .ref 21)] [] _
    have q43 : (pj_fi G40 53 1).toInt = y42.toInt := by rw [show pj_fi G40 53 1 = y42 from hy42.symm]
    exact pj_X_rt rfl rfl ⟨rfl, iG40, kG40, mr_nt1 5 (by omega) jG40 rfl eG40⟩
  by_cases t44 : y1.toInt = 6
  · refine pj_X_aa hI rfl rfl (k := 6) (by show _ = ((6 : Nat) : Int); omega) (by decide) rfl ?_
    refine pj_X_of (fun r h => pj_R_to (G0, 10, [(0, .ref 53), (1, .ref 21)], [.ref 21, .ref 93], 0, 0) 10 2 (fun _ => rfl) h) ?_
    have q45 : (pj_fi G0 53 1).toInt = y1.toInt := by rw [show pj_fi G0 53 1 = y1 from hy1.symm]
    refine pj_X_ca (vs := [.ref 93, .ref 21]) rfl (fun _ => rfl) ⟨Nat.le_of_ble_eq_true rfl, Nat.le_of_ble_eq_true rfl, pj_T_rcv hI rfl⟩ ⟨rfl, rfl⟩ (pj_Y_up (by decide) (ct_68_93_21x G0 hI)) ?_
    rintro _ G47 ⟨rfl, iG47, jG47, eG47, fy46⟩
    replace eG47 := eG47 _ rfl
    have kG47 : pj_kpt kc_33n G0 G47 := pj_kpt_t hK (pj_kpt_s jG47 rfl)
    have q48 : (pj_fi G47 53 1).toInt = (pj_fi G0 53 1).toInt := by rw [jG47.1 (53, 1) (by decide)]
    obtain ⟨y49, hy49⟩ : ∃ z : Int32, z = pj_fi G47 53 1 := ⟨_, rfl⟩
    have ey49 : (pj_fi G47 53 1).toInt = y49.toInt := by rw [hy49]
    have ry49 : (0 : Int) ≤ y49.toInt ∧ y49.toInt ≤ 15 := by rw [hy49]; exact iG47.2.1 53 1 (0, 15) rfl
    show pj_X _ _ G47 13 [(0, .ref 53), (1, .ref 21)] [] _
    have q50 : (pj_fi G47 53 1).toInt = y49.toInt := by rw [show pj_fi G47 53 1 = y49 from hy49.symm]
    exact pj_X_rt rfl rfl ⟨rfl, iG47, kG47, mr_nt1 6 (by omega) jG47 rfl eG47⟩
  by_cases t51 : y1.toInt = 7
  · refine pj_X_aa hI rfl rfl (k := 7) (by show _ = ((7 : Nat) : Int); omega) (by decide) rfl ?_
    refine pj_X_of (fun r h => pj_R_to (G0, 10, [(0, .ref 53), (1, .ref 21)], [.ref 21, .ref 99], 0, 0) 10 2 (fun _ => rfl) h) ?_
    have q52 : (pj_fi G0 53 1).toInt = y1.toInt := by rw [show pj_fi G0 53 1 = y1 from hy1.symm]
    refine pj_X_ca (vs := [.ref 99, .ref 21]) rfl (fun _ => rfl) ⟨Nat.le_of_ble_eq_true rfl, Nat.le_of_ble_eq_true rfl, pj_T_rcv hI rfl⟩ ⟨rfl, rfl⟩ (pj_Y_up (by decide) (ct_68_99_21x G0 hI)) ?_
    rintro _ G54 ⟨rfl, iG54, jG54, eG54, fy53⟩
    replace eG54 := eG54 _ rfl
    have kG54 : pj_kpt kc_33n G0 G54 := pj_kpt_t hK (pj_kpt_s jG54 rfl)
    have q55 : (pj_fi G54 53 1).toInt = (pj_fi G0 53 1).toInt := by rw [jG54.1 (53, 1) (by decide)]
    obtain ⟨y56, hy56⟩ : ∃ z : Int32, z = pj_fi G54 53 1 := ⟨_, rfl⟩
    have ey56 : (pj_fi G54 53 1).toInt = y56.toInt := by rw [hy56]
    have ry56 : (0 : Int) ≤ y56.toInt ∧ y56.toInt ≤ 15 := by rw [hy56]; exact iG54.2.1 53 1 (0, 15) rfl
    show pj_X _ _ G54 13 [(0, .ref 53), (1, .ref 21)] [] _
    have q57 : (pj_fi G54 53 1).toInt = y56.toInt := by rw [show pj_fi G54 53 1 = y56 from hy56.symm]
    exact pj_X_rt rfl rfl ⟨rfl, iG54, kG54, mr_nt1 7 (by omega) jG54 rfl eG54⟩
  by_cases t58 : y1.toInt = 8
  · refine pj_X_aa hI rfl rfl (k := 8) (by show _ = ((8 : Nat) : Int); omega) (by decide) rfl ?_
    refine pj_X_of (fun r h => pj_R_to (G0, 10, [(0, .ref 53), (1, .ref 21)], [.ref 21, .ref 105], 0, 0) 10 2 (fun _ => rfl) h) ?_
    have q59 : (pj_fi G0 53 1).toInt = y1.toInt := by rw [show pj_fi G0 53 1 = y1 from hy1.symm]
    refine pj_X_ca (vs := [.ref 105, .ref 21]) rfl (fun _ => rfl) ⟨Nat.le_of_ble_eq_true rfl, Nat.le_of_ble_eq_true rfl, pj_T_rcv hI rfl⟩ ⟨rfl, rfl⟩ (pj_Y_up (by decide) (ct_68_105_21x G0 hI)) ?_
    rintro _ G61 ⟨rfl, iG61, jG61, eG61, fy60⟩
    replace eG61 := eG61 _ rfl
    have kG61 : pj_kpt kc_33n G0 G61 := pj_kpt_t hK (pj_kpt_s jG61 rfl)
    have q62 : (pj_fi G61 53 1).toInt = (pj_fi G0 53 1).toInt := by rw [jG61.1 (53, 1) (by decide)]
    obtain ⟨y63, hy63⟩ : ∃ z : Int32, z = pj_fi G61 53 1 := ⟨_, rfl⟩
    have ey63 : (pj_fi G61 53 1).toInt = y63.toInt := by rw [hy63]
    have ry63 : (0 : Int) ≤ y63.toInt ∧ y63.toInt ≤ 15 := by rw [hy63]; exact iG61.2.1 53 1 (0, 15) rfl
    show pj_X _ _ G61 13 [(0, .ref 53), (1, .ref 21)] [] _
    have q64 : (pj_fi G61 53 1).toInt = y63.toInt := by rw [show pj_fi G61 53 1 = y63 from hy63.symm]
    exact pj_X_rt rfl rfl ⟨rfl, iG61, kG61, mr_nt1 8 (by omega) jG61 rfl eG61⟩
  by_cases t65 : y1.toInt = 9
  · refine pj_X_aa hI rfl rfl (k := 9) (by show _ = ((9 : Nat) : Int); omega) (by decide) rfl ?_
    refine pj_X_of (fun r h => pj_R_to (G0, 10, [(0, .ref 53), (1, .ref 21)], [.ref 21, .ref 111], 0, 0) 10 2 (fun _ => rfl) h) ?_
    have q66 : (pj_fi G0 53 1).toInt = y1.toInt := by rw [show pj_fi G0 53 1 = y1 from hy1.symm]
    refine pj_X_ca (vs := [.ref 111, .ref 21]) rfl (fun _ => rfl) ⟨Nat.le_of_ble_eq_true rfl, Nat.le_of_ble_eq_true rfl, pj_T_rcv hI rfl⟩ ⟨rfl, rfl⟩ (pj_Y_up (by decide) (ct_68_111_21x G0 hI)) ?_
    rintro _ G68 ⟨rfl, iG68, jG68, eG68, fy67⟩
    replace eG68 := eG68 _ rfl
    have kG68 : pj_kpt kc_33n G0 G68 := pj_kpt_t hK (pj_kpt_s jG68 rfl)
    have q69 : (pj_fi G68 53 1).toInt = (pj_fi G0 53 1).toInt := by rw [jG68.1 (53, 1) (by decide)]
    obtain ⟨y70, hy70⟩ : ∃ z : Int32, z = pj_fi G68 53 1 := ⟨_, rfl⟩
    have ey70 : (pj_fi G68 53 1).toInt = y70.toInt := by rw [hy70]
    have ry70 : (0 : Int) ≤ y70.toInt ∧ y70.toInt ≤ 15 := by rw [hy70]; exact iG68.2.1 53 1 (0, 15) rfl
    show pj_X _ _ G68 13 [(0, .ref 53), (1, .ref 21)] [] _
    have q71 : (pj_fi G68 53 1).toInt = y70.toInt := by rw [show pj_fi G68 53 1 = y70 from hy70.symm]
    exact pj_X_rt rfl rfl ⟨rfl, iG68, kG68, mr_nt1 9 (by omega) jG68 rfl eG68⟩
  by_cases t72 : y1.toInt = 10
  · refine pj_X_aa hI rfl rfl (k := 10) (by show _ = ((10 : Nat) : Int); omega) (by decide) rfl ?_
    refine pj_X_of (fun r h => pj_R_to (G0, 10, [(0, .ref 53), (1, .ref 21)], [.ref 21, .ref 117], 0, 0) 10 2 (fun _ => rfl) h) ?_
    have q73 : (pj_fi G0 53 1).toInt = y1.toInt := by rw [show pj_fi G0 53 1 = y1 from hy1.symm]
    refine pj_X_ca (vs := [.ref 117, .ref 21]) rfl (fun _ => rfl) ⟨Nat.le_of_ble_eq_true rfl, Nat.le_of_ble_eq_true rfl, pj_T_rcv hI rfl⟩ ⟨rfl, rfl⟩ (pj_Y_up (by decide) (ct_68_117_21x G0 hI)) ?_
    rintro _ G75 ⟨rfl, iG75, jG75, eG75, fy74⟩
    replace eG75 := eG75 _ rfl
    have kG75 : pj_kpt kc_33n G0 G75 := pj_kpt_t hK (pj_kpt_s jG75 rfl)
    have q76 : (pj_fi G75 53 1).toInt = (pj_fi G0 53 1).toInt := by rw [jG75.1 (53, 1) (by decide)]
    obtain ⟨y77, hy77⟩ : ∃ z : Int32, z = pj_fi G75 53 1 := ⟨_, rfl⟩
    have ey77 : (pj_fi G75 53 1).toInt = y77.toInt := by rw [hy77]
    have ry77 : (0 : Int) ≤ y77.toInt ∧ y77.toInt ≤ 15 := by rw [hy77]; exact iG75.2.1 53 1 (0, 15) rfl
    show pj_X _ _ G75 13 [(0, .ref 53), (1, .ref 21)] [] _
    have q78 : (pj_fi G75 53 1).toInt = y77.toInt := by rw [show pj_fi G75 53 1 = y77 from hy77.symm]
    exact pj_X_rt rfl rfl ⟨rfl, iG75, kG75, mr_nt1 10 (by omega) jG75 rfl eG75⟩
  by_cases t79 : y1.toInt = 11
  · refine pj_X_aa hI rfl rfl (k := 11) (by show _ = ((11 : Nat) : Int); omega) (by decide) rfl ?_
    refine pj_X_of (fun r h => pj_R_to (G0, 10, [(0, .ref 53), (1, .ref 21)], [.ref 21, .ref 123], 0, 0) 10 2 (fun _ => rfl) h) ?_
    have q80 : (pj_fi G0 53 1).toInt = y1.toInt := by rw [show pj_fi G0 53 1 = y1 from hy1.symm]
    refine pj_X_ca (vs := [.ref 123, .ref 21]) rfl (fun _ => rfl) ⟨Nat.le_of_ble_eq_true rfl, Nat.le_of_ble_eq_true rfl, pj_T_rcv hI rfl⟩ ⟨rfl, rfl⟩ (pj_Y_up (by decide) (ct_68_123_21x G0 hI)) ?_
    rintro _ G82 ⟨rfl, iG82, jG82, eG82, fy81⟩
    replace eG82 := eG82 _ rfl
    have kG82 : pj_kpt kc_33n G0 G82 := pj_kpt_t hK (pj_kpt_s jG82 rfl)
    have q83 : (pj_fi G82 53 1).toInt = (pj_fi G0 53 1).toInt := by rw [jG82.1 (53, 1) (by decide)]
    obtain ⟨y84, hy84⟩ : ∃ z : Int32, z = pj_fi G82 53 1 := ⟨_, rfl⟩
    have ey84 : (pj_fi G82 53 1).toInt = y84.toInt := by rw [hy84]
    have ry84 : (0 : Int) ≤ y84.toInt ∧ y84.toInt ≤ 15 := by rw [hy84]; exact iG82.2.1 53 1 (0, 15) rfl
    show pj_X _ _ G82 13 [(0, .ref 53), (1, .ref 21)] [] _
    have q85 : (pj_fi G82 53 1).toInt = y84.toInt := by rw [show pj_fi G82 53 1 = y84 from hy84.symm]
    exact pj_X_rt rfl rfl ⟨rfl, iG82, kG82, mr_nt1 11 (by omega) jG82 rfl eG82⟩
  by_cases t86 : y1.toInt = 12
  · refine pj_X_aa hI rfl rfl (k := 12) (by show _ = ((12 : Nat) : Int); omega) (by decide) rfl ?_
    refine pj_X_of (fun r h => pj_R_to (G0, 10, [(0, .ref 53), (1, .ref 21)], [.ref 21, .ref 129], 0, 0) 10 2 (fun _ => rfl) h) ?_
    have q87 : (pj_fi G0 53 1).toInt = y1.toInt := by rw [show pj_fi G0 53 1 = y1 from hy1.symm]
    refine pj_X_ca (vs := [.ref 129, .ref 21]) rfl (fun _ => rfl) ⟨Nat.le_of_ble_eq_true rfl, Nat.le_of_ble_eq_true rfl, pj_T_rcv hI rfl⟩ ⟨rfl, rfl⟩ (pj_Y_up (by decide) (ct_68_129_21x G0 hI)) ?_
    rintro _ G89 ⟨rfl, iG89, jG89, eG89, fy88⟩
    replace eG89 := eG89 _ rfl
    have kG89 : pj_kpt kc_33n G0 G89 := pj_kpt_t hK (pj_kpt_s jG89 rfl)
    have q90 : (pj_fi G89 53 1).toInt = (pj_fi G0 53 1).toInt := by rw [jG89.1 (53, 1) (by decide)]
    obtain ⟨y91, hy91⟩ : ∃ z : Int32, z = pj_fi G89 53 1 := ⟨_, rfl⟩
    have ey91 : (pj_fi G89 53 1).toInt = y91.toInt := by rw [hy91]
    have ry91 : (0 : Int) ≤ y91.toInt ∧ y91.toInt ≤ 15 := by rw [hy91]; exact iG89.2.1 53 1 (0, 15) rfl
    show pj_X _ _ G89 13 [(0, .ref 53), (1, .ref 21)] [] _
    have q92 : (pj_fi G89 53 1).toInt = y91.toInt := by rw [show pj_fi G89 53 1 = y91 from hy91.symm]
    exact pj_X_rt rfl rfl ⟨rfl, iG89, kG89, mr_nt1 12 (by omega) jG89 rfl eG89⟩
  by_cases t93 : y1.toInt = 13
  · refine pj_X_aa hI rfl rfl (k := 13) (by show _ = ((13 : Nat) : Int); omega) (by decide) rfl ?_
    refine pj_X_of (fun r h => pj_R_to (G0, 10, [(0, .ref 53), (1, .ref 21)], [.ref 21, .ref 135], 0, 0) 10 2 (fun _ => rfl) h) ?_
    have q94 : (pj_fi G0 53 1).toInt = y1.toInt := by rw [show pj_fi G0 53 1 = y1 from hy1.symm]
    refine pj_X_ca (vs := [.ref 135, .ref 21]) rfl (fun _ => rfl) ⟨Nat.le_of_ble_eq_true rfl, Nat.le_of_ble_eq_true rfl, pj_T_rcv hI rfl⟩ ⟨rfl, rfl⟩ (pj_Y_up (by decide) (ct_68_135_21x G0 hI)) ?_
    rintro _ G96 ⟨rfl, iG96, jG96, eG96, fy95⟩
    replace eG96 := eG96 _ rfl
    have kG96 : pj_kpt kc_33n G0 G96 := pj_kpt_t hK (pj_kpt_s jG96 rfl)
    have q97 : (pj_fi G96 53 1).toInt = (pj_fi G0 53 1).toInt := by rw [jG96.1 (53, 1) (by decide)]
    obtain ⟨y98, hy98⟩ : ∃ z : Int32, z = pj_fi G96 53 1 := ⟨_, rfl⟩
    have ey98 : (pj_fi G96 53 1).toInt = y98.toInt := by rw [hy98]
    have ry98 : (0 : Int) ≤ y98.toInt ∧ y98.toInt ≤ 15 := by rw [hy98]; exact iG96.2.1 53 1 (0, 15) rfl
    show pj_X _ _ G96 13 [(0, .ref 53), (1, .ref 21)] [] _
    have q99 : (pj_fi G96 53 1).toInt = y98.toInt := by rw [show pj_fi G96 53 1 = y98 from hy98.symm]
    exact pj_X_rt rfl rfl ⟨rfl, iG96, kG96, mr_nt1 13 (by omega) jG96 rfl eG96⟩
  by_cases t100 : y1.toInt = 14
  · refine pj_X_aa hI rfl rfl (k := 14) (by show _ = ((14 : Nat) : Int); omega) (by decide) rfl ?_
    refine pj_X_of (fun r h => pj_R_to (G0, 10, [(0, .ref 53), (1, .ref 21)], [.ref 21, .ref 141], 0, 0) 10 2 (fun _ => rfl) h) ?_
    have q101 : (pj_fi G0 53 1).toInt = y1.toInt := by rw [show pj_fi G0 53 1 = y1 from hy1.symm]
    refine pj_X_ca (vs := [.ref 141, .ref 21]) rfl (fun _ => rfl) ⟨Nat.le_of_ble_eq_true rfl, Nat.le_of_ble_eq_true rfl, pj_T_rcv hI rfl⟩ ⟨rfl, rfl⟩ (pj_Y_up (by decide) (ct_68_141_21x G0 hI)) ?_
    rintro _ G103 ⟨rfl, iG103, jG103, eG103, fy102⟩
    replace eG103 := eG103 _ rfl
    have kG103 : pj_kpt kc_33n G0 G103 := pj_kpt_t hK (pj_kpt_s jG103 rfl)
    have q104 : (pj_fi G103 53 1).toInt = (pj_fi G0 53 1).toInt := by rw [jG103.1 (53, 1) (by decide)]
    obtain ⟨y105, hy105⟩ : ∃ z : Int32, z = pj_fi G103 53 1 := ⟨_, rfl⟩
    have ey105 : (pj_fi G103 53 1).toInt = y105.toInt := by rw [hy105]
    have ry105 : (0 : Int) ≤ y105.toInt ∧ y105.toInt ≤ 15 := by rw [hy105]; exact iG103.2.1 53 1 (0, 15) rfl
    show pj_X _ _ G103 13 [(0, .ref 53), (1, .ref 21)] [] _
    have q106 : (pj_fi G103 53 1).toInt = y105.toInt := by rw [show pj_fi G103 53 1 = y105 from hy105.symm]
    exact pj_X_rt rfl rfl ⟨rfl, iG103, kG103, mr_nt1 14 (by omega) jG103 rfl eG103⟩
  · refine pj_X_aa hI rfl rfl (k := 15) (by show _ = ((15 : Nat) : Int); omega) (by decide) rfl ?_
    refine pj_X_of (fun r h => pj_R_to (G0, 10, [(0, .ref 53), (1, .ref 21)], [.ref 21, .ref 147], 0, 0) 10 2 (fun _ => rfl) h) ?_
    have q107 : (pj_fi G0 53 1).toInt = y1.toInt := by rw [show pj_fi G0 53 1 = y1 from hy1.symm]
    refine pj_X_ca (vs := [.ref 147, .ref 21]) rfl (fun _ => rfl) ⟨Nat.le_of_ble_eq_true rfl, Nat.le_of_ble_eq_true rfl, pj_T_rcv hI rfl⟩ ⟨rfl, rfl⟩ (pj_Y_up (by decide) (ct_68_147_21x G0 hI)) ?_
    rintro _ G109 ⟨rfl, iG109, jG109, eG109, fy108⟩
    replace eG109 := eG109 _ rfl
    have kG109 : pj_kpt kc_33n G0 G109 := pj_kpt_t hK (pj_kpt_s jG109 rfl)
    have q110 : (pj_fi G109 53 1).toInt = (pj_fi G0 53 1).toInt := by rw [jG109.1 (53, 1) (by decide)]
    obtain ⟨y111, hy111⟩ : ∃ z : Int32, z = pj_fi G109 53 1 := ⟨_, rfl⟩
    have ey111 : (pj_fi G109 53 1).toInt = y111.toInt := by rw [hy111]
    have ry111 : (0 : Int) ≤ y111.toInt ∧ y111.toInt ≤ 15 := by rw [hy111]; exact iG109.2.1 53 1 (0, 15) rfl
    show pj_X _ _ G109 13 [(0, .ref 53), (1, .ref 21)] [] _
    have q112 : (pj_fi G109 53 1).toInt = y111.toInt := by rw [show pj_fi G109 53 1 = y111 from hy111.symm]
    exact pj_X_rt rfl rfl ⟨rfl, iG109, kG109, mr_nt1 15 (by omega) jG109 rfl eG109⟩
def kc_34n : pj_KT := ([(53, 1), (53, 2)], [53], [])
theorem ct_34n (G0 : pj_G) (hI : pj_Inv G0) (dn : Int32) (rdn : (0 : Int) ≤ dn.toInt ∧ dn.toInt ≤ 1) : pj_Y 1 34 [.ref 53, .int dn] G0 (fun v G' => v = none ∧ pj_Inv G' ∧ pj_kpt kc_34n G0 G' ∧ ((dn.toInt = 0 → (pj_fi G' 53 1).toInt = (pj_fi G0 53 1).toInt ∧ (pj_fi G' 53 2).toInt = (pj_fi G0 53 2).toInt) ∧ (1 ≤ dn.toInt → (pj_fi G' 53 1).toInt = ((pj_fi G0 53 1).toInt + 1) % 16 ∧ (pj_fi G' 53 2).toInt ≤ (pj_fi G0 53 2).toInt + 1 ∧ (pj_fi G' 53 2).toInt ≤ 15))) := by
  have c0_ : ((Int8.ofInt 15).toInt32).toInt = 15 := by decide
  have c1_ : (Int32.ofInt 1).toInt = 1 := by decide
  have c2_ : (Int32.ofNat 16).toInt = 16 := by decide
  refine pj_Y_X (M := pj_m34) rfl rfl (Nat.le_of_ble_eq_true rfl) ?_
  have hK : pj_kpt kc_34n G0 G0 := pj_kpt_r _ _
  show pj_X _ _ G0 0 [(0, .ref 53), (1, .int dn)] [] _
  obtain ⟨y1, hy1⟩ : ∃ z : Int32, z = pj_fi G0 53 1 := ⟨_, rfl⟩
  have ey1 : (pj_fi G0 53 1).toInt = y1.toInt := by rw [hy1]
  have ry1 : (0 : Int) ≤ y1.toInt ∧ y1.toInt ≤ 15 := by rw [hy1]; exact hI.2.1 53 1 (0, 15) rfl
  obtain ⟨y2, hy2⟩ : ∃ z : Int32, z = pj_fi G0 53 2 := ⟨_, rfl⟩
  have ey2 : (pj_fi G0 53 2).toInt = y2.toInt := by rw [hy2]
  have ry2 : (0 : Int) ≤ y2.toInt ∧ y2.toInt ≤ 15 := by rw [hy2]; exact hI.2.1 53 2 (0, 15) rfl
  refine pj_X_of (fun r h => pj_R_to (G0, 1, [(0, .ref 53), (1, .int dn)], [.int dn], 0, 0) 1 2 (fun _ => rfl) h) ?_
  cases b3 : pj_c1 .eq dn 0 with
  | true =>
    have ub3 := pj_u0_eqT b3
    refine pj_X_of (fun r h => pj_R_ifT 35 rfl rfl b3 h) ?_
    have q4 : (pj_fi G0 53 1).toInt = y1.toInt := by rw [show pj_fi G0 53 1 = y1 from hy1.symm]
    have q5 : (pj_fi G0 53 2).toInt = y2.toInt := by rw [show pj_fi G0 53 2 = y2 from hy2.symm]
    exact pj_X_rt rfl rfl ⟨rfl, hI, hK, by omega⟩
  | false =>
    have ub3 := pj_u0_eqF b3
    refine pj_X_of (fun r h => pj_R_ifF rfl b3 h) ?_
    refine pj_X_of (fun r h => pj_R_to (G0, 6, [(0, .ref 53), (1, .int dn)], [.ref 53, .ref 53], 0, 0) 6 3 (fun _ => rfl) h) ?_
    refine pj_X_of (fun r h => pj_T_gi hI rfl rfl h) ?_
    show pj_X _ _ G0 9 [(0, .ref 53), (1, .int dn)] [.int (pj_fi G0 53 1), .ref 53] _
    refine pj_X_eqi (show pj_fi G0 53 1 = y1 from hy1.symm) ?_
    refine pj_X_of (fun r h => pj_R_to (G0, 11, [(0, .ref 53), (1, .int dn)], [.int (y1 + (Int32.ofInt 1)), .ref 53], 0, 0) 11 3 (fun _ => rfl) h) ?_
    obtain ⟨z6, hz6⟩ : ∃ z : Int32, z = y1 + (Int32.ofInt 1) := ⟨_, rfl⟩
    refine pj_X_eqi hz6.symm ?_
    have fz6_0 : z6.toInt = y1.toInt + (Int32.ofInt 1).toInt := by rw [hz6]; exact pj_addI (by have := pj_i32 y1; have := pj_i32 (Int32.ofInt 1); omega) (by have := pj_i32 y1; have := pj_i32 (Int32.ofInt 1); omega)
    refine pj_X_of (fun r h => pj_R_to (G0, 12, [(0, .ref 53), (1, .int dn)], [.ref 53, .int z6, .ref 53], 0, 0) 12 2 (fun _ => rfl) h) ?_
    refine pj_X_of (fun r h => pj_T_gr hI rfl rfl rfl h) ?_
    refine pj_X_of (fun r h => pj_T_al hI rfl rfl (by decide) h) ?_
    refine pj_X_of (fun r h => pj_R_rm rfl (pj_nz (by omega)) h) ?_
    show pj_X _ _ G0 17 [(0, .ref 53), (1, .int dn)] [.int (z6 - z6 / (Int32.ofNat 16) * (Int32.ofNat 16)), .ref 53] _
    obtain ⟨z7, hz7⟩ : ∃ z : Int32, z = z6 - z6 / (Int32.ofNat 16) * (Int32.ofNat 16) := ⟨_, rfl⟩
    refine pj_X_eqi hz7.symm ?_
    have fz7_0 : 0 ≤ z7.toInt ∧ z7.toInt < (Int32.ofNat 16).toInt := by rw [hz7]; exact pj_remI (by omega) (by omega)
    have fz7_1 : z7.toInt = z6.toInt % 16 := by rw [hz7]; exact (by have q := mr_rem (x := z6) (y := (Int32.ofNat 16)) (by omega) (by omega); rw [show ((Int32.ofNat 16)).toInt = 16 by decide] at q; exact q)
    refine pj_X_of (fun r h => pj_T_pf hI rfl rfl rfl h) ?_
    show pj_X _ _ (pj_wv G0 53 1 (.int z7)) 20 [(0, .ref 53), (1, .int dn)] [] _
    obtain ⟨G8, hG8⟩ : ∃ H, H = pj_wv G0 53 1 (.int z7) := ⟨_, rfl⟩
    have iG8 : pj_Inv G8 := by rw [hG8]; exact pj_Inv_wi hI (ci := 4) rfl (fun q hq => by cases hq; exact ⟨by show (0 : Int) ≤ _; omega, by show _ ≤ (15 : Int); omega⟩)
    have kG8 : pj_kpt kc_34n G0 G8 := by rw [hG8]; exact pj_kpt_v hK rfl
    rw [← hG8]
    refine pj_X_of (fun r h => pj_R_to (G8, 22, [(0, .ref 53), (1, .int dn)], [.ref 53, .ref 53], 0, 0) 22 3 (fun _ => rfl) h) ?_
    refine pj_X_of (fun r h => pj_T_gi iG8 rfl rfl h) ?_
    show pj_X _ _ G8 25 [(0, .ref 53), (1, .int dn)] [.int (pj_fi G8 53 2), .ref 53] _
    refine pj_X_eqi (show pj_fi G8 53 2 = y2 from by rw [hG8, pj_fi_wv_ne _ _ _ _ _ _ (by decide)]; exact hy2.symm) ?_
    refine pj_X_of (fun r h => pj_R_to (G8, 27, [(0, .ref 53), (1, .int dn)], [.int (y2 + (Int32.ofInt 1)), .ref 53], 0, 0) 27 3 (fun _ => rfl) h) ?_
    obtain ⟨z9, hz9⟩ : ∃ z : Int32, z = y2 + (Int32.ofInt 1) := ⟨_, rfl⟩
    refine pj_X_eqi hz9.symm ?_
    have fz9_0 : z9.toInt = y2.toInt + (Int32.ofInt 1).toInt := by rw [hz9]; exact pj_addI (by have := pj_i32 y2; have := pj_i32 (Int32.ofInt 1); omega) (by have := pj_i32 y2; have := pj_i32 (Int32.ofInt 1); omega)
    refine pj_X_of (fun r h => pj_R_to (G8, 29, [(0, .ref 53), (1, .int dn)], [.int ((Int8.ofInt 15).toInt32), .int z9, .ref 53], 0, 0) 29 2 (fun _ => rfl) h) ?_
    refine pj_X_of (fun r h => pj_R_mn (v := (if ((Int8.ofInt 15).toInt32) < z9 then ((Int8.ofInt 15).toInt32) else z9)) rfl rfl rfl (Nat.le_of_ble_eq_true rfl) h) ?_
    show pj_X _ _ G8 32 [(0, .ref 53), (1, .int dn)] [.int (if ((Int8.ofInt 15).toInt32) < z9 then ((Int8.ofInt 15).toInt32) else z9), .ref 53] _
    obtain ⟨z10, hz10⟩ : ∃ z : Int32, z = (if ((Int8.ofInt 15).toInt32) < z9 then ((Int8.ofInt 15).toInt32) else z9) := ⟨_, rfl⟩
    refine pj_X_eqi hz10.symm ?_
    have fz10_0 : z10.toInt ≤ z9.toInt ∧ z10.toInt ≤ ((Int8.ofInt 15).toInt32).toInt ∧ (z10.toInt = z9.toInt ∨ z10.toInt = ((Int8.ofInt 15).toInt32).toInt) := by rw [hz10]; exact pj_minI
    refine pj_X_of (fun r h => pj_T_pf iG8 rfl rfl rfl h) ?_
    show pj_X _ _ (pj_wv G8 53 2 (.int z10)) 35 [(0, .ref 53), (1, .int dn)] [] _
    obtain ⟨G11, hG11⟩ : ∃ H, H = pj_wv G8 53 2 (.int z10) := ⟨_, rfl⟩
    have iG11 : pj_Inv G11 := by rw [hG11]; exact pj_Inv_wi iG8 (ci := 4) rfl (fun q hq => by cases hq; exact ⟨by show (0 : Int) ≤ _; omega, by show _ ≤ (15 : Int); omega⟩)
    have kG11 : pj_kpt kc_34n G0 G11 := by rw [hG11]; exact pj_kpt_v kG8 rfl
    rw [← hG11]
    have q12 : (pj_fi G11 53 1).toInt = z7.toInt := by rw [show pj_fi G11 53 1 = z7 from by rw [hG11, pj_fi_wv_ne _ _ _ _ _ _ (by decide)]; exact (by rw [hG8]; exact pj_fi_wi hI.1 (ci := 4) rfl _)]
    have q13 : (pj_fi G11 53 2).toInt = z10.toInt := by rw [show pj_fi G11 53 2 = z10 from by rw [hG11]; exact pj_fi_wi iG8.1 (ci := 4) rfl _]
    exact pj_X_rt rfl rfl ⟨rfl, iG11, kG11, by omega⟩
def kc_35n : pj_KT := ([(53, 1), (53, 2)], [53], [])
theorem ct_35n (G0 : pj_G) (hI : pj_Inv G0) (p0_ : 1 ≤ (pj_fi G0 53 2).toInt) : pj_Y 1 35 [.ref 53] G0 (fun v G' => ∃ k : Nat, k < 16 ∧ v = some (.ref (57 + 6 * k)) ∧ pj_Inv G' ∧ pj_kpt kc_35n G0 G' ∧ ((pj_fi G' 53 1).toInt = (k : Int) ∧ (k : Int) = ((pj_fi G0 53 1).toInt + 15) % 16 ∧ (pj_fi G' 53 2).toInt = (pj_fi G0 53 2).toInt - 1)) := by
  have c0_ : ((Int8.ofInt 15).toInt32).toInt = 15 := by decide
  have c1_ : (Int32.ofInt 1).toInt = 1 := by decide
  have c2_ : (Int32.ofNat 16).toInt = 16 := by decide
  refine pj_Y_X (M := pj_m35) rfl rfl (Nat.le_of_ble_eq_true rfl) ?_
  have hK : pj_kpt kc_35n G0 G0 := pj_kpt_r _ _
  show pj_X _ _ G0 0 [(0, .ref 53)] [] _
  obtain ⟨y1, hy1⟩ : ∃ z : Int32, z = pj_fi G0 53 1 := ⟨_, rfl⟩
  have ey1 : (pj_fi G0 53 1).toInt = y1.toInt := by rw [hy1]
  have ry1 : (0 : Int) ≤ y1.toInt ∧ y1.toInt ≤ 15 := by rw [hy1]; exact hI.2.1 53 1 (0, 15) rfl
  obtain ⟨y2, hy2⟩ : ∃ z : Int32, z = pj_fi G0 53 2 := ⟨_, rfl⟩
  have ey2 : (pj_fi G0 53 2).toInt = y2.toInt := by rw [hy2]
  have ry2 : (0 : Int) ≤ y2.toInt ∧ y2.toInt ≤ 15 := by rw [hy2]; exact hI.2.1 53 2 (0, 15) rfl
  refine pj_X_of (fun r h => pj_R_to (G0, 2, [(0, .ref 53)], [.ref 53, .ref 53], 0, 0) 2 3 (fun _ => rfl) h) ?_
  refine pj_X_of (fun r h => pj_T_gi hI rfl rfl h) ?_
  show pj_X _ _ G0 5 [(0, .ref 53)] [.int (pj_fi G0 53 1), .ref 53] _
  refine pj_X_eqi (show pj_fi G0 53 1 = y1 from hy1.symm) ?_
  refine pj_X_of (fun r h => pj_R_to (G0, 8, [(0, .ref 53)], [.int (y1 + ((Int8.ofInt 15).toInt32)), .ref 53], 0, 0) 8 3 (fun _ => rfl) h) ?_
  obtain ⟨z3, hz3⟩ : ∃ z : Int32, z = y1 + ((Int8.ofInt 15).toInt32) := ⟨_, rfl⟩
  refine pj_X_eqi hz3.symm ?_
  have fz3_0 : z3.toInt = y1.toInt + ((Int8.ofInt 15).toInt32).toInt := by rw [hz3]; exact pj_addI (by have := pj_i32 y1; have := pj_i32 ((Int8.ofInt 15).toInt32); omega) (by have := pj_i32 y1; have := pj_i32 ((Int8.ofInt 15).toInt32); omega)
  refine pj_X_of (fun r h => pj_R_to (G0, 9, [(0, .ref 53)], [.ref 53, .int z3, .ref 53], 0, 0) 9 2 (fun _ => rfl) h) ?_
  refine pj_X_of (fun r h => pj_T_gr hI rfl rfl rfl h) ?_
  refine pj_X_of (fun r h => pj_T_al hI rfl rfl (by decide) h) ?_
  refine pj_X_of (fun r h => pj_R_rm rfl (pj_nz (by omega)) h) ?_
  show pj_X _ _ G0 14 [(0, .ref 53)] [.int (z3 - z3 / (Int32.ofNat 16) * (Int32.ofNat 16)), .ref 53] _
  obtain ⟨z4, hz4⟩ : ∃ z : Int32, z = z3 - z3 / (Int32.ofNat 16) * (Int32.ofNat 16) := ⟨_, rfl⟩
  refine pj_X_eqi hz4.symm ?_
  have fz4_0 : 0 ≤ z4.toInt ∧ z4.toInt < (Int32.ofNat 16).toInt := by rw [hz4]; exact pj_remI (by omega) (by omega)
  have fz4_1 : z4.toInt = z3.toInt % 16 := by rw [hz4]; exact (by have q := mr_rem (x := z3) (y := (Int32.ofNat 16)) (by omega) (by omega); rw [show ((Int32.ofNat 16)).toInt = 16 by decide] at q; exact q)
  refine pj_X_of (fun r h => pj_T_pf hI rfl rfl rfl h) ?_
  show pj_X _ _ (pj_wv G0 53 1 (.int z4)) 17 [(0, .ref 53)] [] _
  obtain ⟨G5, hG5⟩ : ∃ H, H = pj_wv G0 53 1 (.int z4) := ⟨_, rfl⟩
  have iG5 : pj_Inv G5 := by rw [hG5]; exact pj_Inv_wi hI (ci := 4) rfl (fun q hq => by cases hq; exact ⟨by show (0 : Int) ≤ _; omega, by show _ ≤ (15 : Int); omega⟩)
  have kG5 : pj_kpt kc_35n G0 G5 := by rw [hG5]; exact pj_kpt_v hK rfl
  rw [← hG5]
  refine pj_X_of (fun r h => pj_R_to (G5, 19, [(0, .ref 53)], [.ref 53, .ref 53], 0, 0) 19 3 (fun _ => rfl) h) ?_
  refine pj_X_of (fun r h => pj_T_gi iG5 rfl rfl h) ?_
  show pj_X _ _ G5 22 [(0, .ref 53)] [.int (pj_fi G5 53 2), .ref 53] _
  refine pj_X_eqi (show pj_fi G5 53 2 = y2 from by rw [hG5, pj_fi_wv_ne _ _ _ _ _ _ (by decide)]; exact hy2.symm) ?_
  refine pj_X_of (fun r h => pj_R_to (G5, 24, [(0, .ref 53)], [.int (y2 - (Int32.ofInt 1)), .ref 53], 0, 0) 24 3 (fun _ => rfl) h) ?_
  obtain ⟨z6, hz6⟩ : ∃ z : Int32, z = y2 - (Int32.ofInt 1) := ⟨_, rfl⟩
  refine pj_X_eqi hz6.symm ?_
  have fz6_0 : z6.toInt = y2.toInt - (Int32.ofInt 1).toInt := by rw [hz6]; exact pj_subI (by have := pj_i32 y2; have := pj_i32 (Int32.ofInt 1); omega) (by have := pj_i32 y2; have := pj_i32 (Int32.ofInt 1); omega)
  refine pj_X_of (fun r h => pj_T_pf iG5 rfl rfl rfl h) ?_
  show pj_X _ _ (pj_wv G5 53 2 (.int z6)) 27 [(0, .ref 53)] [] _
  obtain ⟨G7, hG7⟩ : ∃ H, H = pj_wv G5 53 2 (.int z6) := ⟨_, rfl⟩
  have iG7 : pj_Inv G7 := by rw [hG7]; exact pj_Inv_wi iG5 (ci := 4) rfl (fun q hq => by cases hq; exact ⟨by show (0 : Int) ≤ _; omega, by show _ ≤ (15 : Int); omega⟩)
  have kG7 : pj_kpt kc_35n G0 G7 := by rw [hG7]; exact pj_kpt_v kG5 rfl
  rw [← hG7]
  refine pj_X_of (fun r h => pj_R_to (G7, 28, [(0, .ref 53)], [.ref 53], 0, 0) 28 2 (fun _ => rfl) h) ?_
  refine pj_X_of (fun r h => pj_T_gr iG7 rfl rfl rfl h) ?_
  refine pj_X_of (fun r h => pj_R_to (G7, 32, [(0, .ref 53)], [.ref 53, .ref 54], 0, 0) 32 2 (fun _ => rfl) h) ?_
  refine pj_X_of (fun r h => pj_T_gi iG7 rfl rfl h) ?_
  show pj_X _ _ G7 35 [(0, .ref 53)] [.int (pj_fi G7 53 1), .ref 54] _
  refine pj_X_eqi (show pj_fi G7 53 1 = z4 from by rw [hG7, pj_fi_wv_ne _ _ _ _ _ _ (by decide)]; exact (by rw [hG5]; exact pj_fi_wi hI.1 (ci := 4) rfl _)) ?_
  by_cases t8 : z4.toInt = 0
  · refine pj_X_aa iG7 rfl rfl (k := 0) (by show _ = ((0 : Nat) : Int); omega) (by decide) rfl ?_
    have q9 : (pj_fi G7 53 1).toInt = z4.toInt := by rw [show pj_fi G7 53 1 = z4 from by rw [hG7, pj_fi_wv_ne _ _ _ _ _ _ (by decide)]; exact (by rw [hG5]; exact pj_fi_wi hI.1 (ci := 4) rfl _)]
    have q10 : (pj_fi G7 53 2).toInt = z6.toInt := by rw [show pj_fi G7 53 2 = z6 from by rw [hG7]; exact pj_fi_wi iG5.1 (ci := 4) rfl _]
    exact pj_X_rt rfl rfl ⟨0, by decide, rfl, iG7, kG7, by omega⟩
  by_cases t11 : z4.toInt = 1
  · refine pj_X_aa iG7 rfl rfl (k := 1) (by show _ = ((1 : Nat) : Int); omega) (by decide) rfl ?_
    have q12 : (pj_fi G7 53 1).toInt = z4.toInt := by rw [show pj_fi G7 53 1 = z4 from by rw [hG7, pj_fi_wv_ne _ _ _ _ _ _ (by decide)]; exact (by rw [hG5]; exact pj_fi_wi hI.1 (ci := 4) rfl _)]
    have q13 : (pj_fi G7 53 2).toInt = z6.toInt := by rw [show pj_fi G7 53 2 = z6 from by rw [hG7]; exact pj_fi_wi iG5.1 (ci := 4) rfl _]
    exact pj_X_rt rfl rfl ⟨1, by decide, rfl, iG7, kG7, by omega⟩
  by_cases t14 : z4.toInt = 2
  · refine pj_X_aa iG7 rfl rfl (k := 2) (by show _ = ((2 : Nat) : Int); omega) (by decide) rfl ?_
    have q15 : (pj_fi G7 53 1).toInt = z4.toInt := by rw [show pj_fi G7 53 1 = z4 from by rw [hG7, pj_fi_wv_ne _ _ _ _ _ _ (by decide)]; exact (by rw [hG5]; exact pj_fi_wi hI.1 (ci := 4) rfl _)]
    have q16 : (pj_fi G7 53 2).toInt = z6.toInt := by rw [show pj_fi G7 53 2 = z6 from by rw [hG7]; exact pj_fi_wi iG5.1 (ci := 4) rfl _]
    exact pj_X_rt rfl rfl ⟨2, by decide, rfl, iG7, kG7, by omega⟩
  by_cases t17 : z4.toInt = 3
  · refine pj_X_aa iG7 rfl rfl (k := 3) (by show _ = ((3 : Nat) : Int); omega) (by decide) rfl ?_
    have q18 : (pj_fi G7 53 1).toInt = z4.toInt := by rw [show pj_fi G7 53 1 = z4 from by rw [hG7, pj_fi_wv_ne _ _ _ _ _ _ (by decide)]; exact (by rw [hG5]; exact pj_fi_wi hI.1 (ci := 4) rfl _)]
    have q19 : (pj_fi G7 53 2).toInt = z6.toInt := by rw [show pj_fi G7 53 2 = z6 from by rw [hG7]; exact pj_fi_wi iG5.1 (ci := 4) rfl _]
    exact pj_X_rt rfl rfl ⟨3, by decide, rfl, iG7, kG7, by omega⟩
  by_cases t20 : z4.toInt = 4
  · refine pj_X_aa iG7 rfl rfl (k := 4) (by show _ = ((4 : Nat) : Int); omega) (by decide) rfl ?_
    have q21 : (pj_fi G7 53 1).toInt = z4.toInt := by rw [show pj_fi G7 53 1 = z4 from by rw [hG7, pj_fi_wv_ne _ _ _ _ _ _ (by decide)]; exact (by rw [hG5]; exact pj_fi_wi hI.1 (ci := 4) rfl _)]
    have q22 : (pj_fi G7 53 2).toInt = z6.toInt := by rw [show pj_fi G7 53 2 = z6 from by rw [hG7]; exact pj_fi_wi iG5.1 (ci := 4) rfl _]
    exact pj_X_rt rfl rfl ⟨4, by decide, rfl, iG7, kG7, by omega⟩
  by_cases t23 : z4.toInt = 5
  · refine pj_X_aa iG7 rfl rfl (k := 5) (by show _ = ((5 : Nat) : Int); omega) (by decide) rfl ?_
    have q24 : (pj_fi G7 53 1).toInt = z4.toInt := by rw [show pj_fi G7 53 1 = z4 from by rw [hG7, pj_fi_wv_ne _ _ _ _ _ _ (by decide)]; exact (by rw [hG5]; exact pj_fi_wi hI.1 (ci := 4) rfl _)]
    have q25 : (pj_fi G7 53 2).toInt = z6.toInt := by rw [show pj_fi G7 53 2 = z6 from by rw [hG7]; exact pj_fi_wi iG5.1 (ci := 4) rfl _]
    exact pj_X_rt rfl rfl ⟨5, by decide, rfl, iG7, kG7, by omega⟩
  by_cases t26 : z4.toInt = 6
  · refine pj_X_aa iG7 rfl rfl (k := 6) (by show _ = ((6 : Nat) : Int); omega) (by decide) rfl ?_
    have q27 : (pj_fi G7 53 1).toInt = z4.toInt := by rw [show pj_fi G7 53 1 = z4 from by rw [hG7, pj_fi_wv_ne _ _ _ _ _ _ (by decide)]; exact (by rw [hG5]; exact pj_fi_wi hI.1 (ci := 4) rfl _)]
    have q28 : (pj_fi G7 53 2).toInt = z6.toInt := by rw [show pj_fi G7 53 2 = z6 from by rw [hG7]; exact pj_fi_wi iG5.1 (ci := 4) rfl _]
    exact pj_X_rt rfl rfl ⟨6, by decide, rfl, iG7, kG7, by omega⟩
  by_cases t29 : z4.toInt = 7
  · refine pj_X_aa iG7 rfl rfl (k := 7) (by show _ = ((7 : Nat) : Int); omega) (by decide) rfl ?_
    have q30 : (pj_fi G7 53 1).toInt = z4.toInt := by rw [show pj_fi G7 53 1 = z4 from by rw [hG7, pj_fi_wv_ne _ _ _ _ _ _ (by decide)]; exact (by rw [hG5]; exact pj_fi_wi hI.1 (ci := 4) rfl _)]
    have q31 : (pj_fi G7 53 2).toInt = z6.toInt := by rw [show pj_fi G7 53 2 = z6 from by rw [hG7]; exact pj_fi_wi iG5.1 (ci := 4) rfl _]
    exact pj_X_rt rfl rfl ⟨7, by decide, rfl, iG7, kG7, by omega⟩
  by_cases t32 : z4.toInt = 8
  · refine pj_X_aa iG7 rfl rfl (k := 8) (by show _ = ((8 : Nat) : Int); omega) (by decide) rfl ?_
    have q33 : (pj_fi G7 53 1).toInt = z4.toInt := by rw [show pj_fi G7 53 1 = z4 from by rw [hG7, pj_fi_wv_ne _ _ _ _ _ _ (by decide)]; exact (by rw [hG5]; exact pj_fi_wi hI.1 (ci := 4) rfl _)]
    have q34 : (pj_fi G7 53 2).toInt = z6.toInt := by rw [show pj_fi G7 53 2 = z6 from by rw [hG7]; exact pj_fi_wi iG5.1 (ci := 4) rfl _]
    exact pj_X_rt rfl rfl ⟨8, by decide, rfl, iG7, kG7, by omega⟩
  by_cases t35 : z4.toInt = 9
  · refine pj_X_aa iG7 rfl rfl (k := 9) (by show _ = ((9 : Nat) : Int); omega) (by decide) rfl ?_
    have q36 : (pj_fi G7 53 1).toInt = z4.toInt := by rw [show pj_fi G7 53 1 = z4 from by rw [hG7, pj_fi_wv_ne _ _ _ _ _ _ (by decide)]; exact (by rw [hG5]; exact pj_fi_wi hI.1 (ci := 4) rfl _)]
    have q37 : (pj_fi G7 53 2).toInt = z6.toInt := by rw [show pj_fi G7 53 2 = z6 from by rw [hG7]; exact pj_fi_wi iG5.1 (ci := 4) rfl _]
    exact pj_X_rt rfl rfl ⟨9, by decide, rfl, iG7, kG7, by omega⟩
  by_cases t38 : z4.toInt = 10
  · refine pj_X_aa iG7 rfl rfl (k := 10) (by show _ = ((10 : Nat) : Int); omega) (by decide) rfl ?_
    have q39 : (pj_fi G7 53 1).toInt = z4.toInt := by rw [show pj_fi G7 53 1 = z4 from by rw [hG7, pj_fi_wv_ne _ _ _ _ _ _ (by decide)]; exact (by rw [hG5]; exact pj_fi_wi hI.1 (ci := 4) rfl _)]
    have q40 : (pj_fi G7 53 2).toInt = z6.toInt := by rw [show pj_fi G7 53 2 = z6 from by rw [hG7]; exact pj_fi_wi iG5.1 (ci := 4) rfl _]
    exact pj_X_rt rfl rfl ⟨10, by decide, rfl, iG7, kG7, by omega⟩
  by_cases t41 : z4.toInt = 11
  · refine pj_X_aa iG7 rfl rfl (k := 11) (by show _ = ((11 : Nat) : Int); omega) (by decide) rfl ?_
    have q42 : (pj_fi G7 53 1).toInt = z4.toInt := by rw [show pj_fi G7 53 1 = z4 from by rw [hG7, pj_fi_wv_ne _ _ _ _ _ _ (by decide)]; exact (by rw [hG5]; exact pj_fi_wi hI.1 (ci := 4) rfl _)]
    have q43 : (pj_fi G7 53 2).toInt = z6.toInt := by rw [show pj_fi G7 53 2 = z6 from by rw [hG7]; exact pj_fi_wi iG5.1 (ci := 4) rfl _]
    exact pj_X_rt rfl rfl ⟨11, by decide, rfl, iG7, kG7, by omega⟩
  by_cases t44 : z4.toInt = 12
  · refine pj_X_aa iG7 rfl rfl (k := 12) (by show _ = ((12 : Nat) : Int); omega) (by decide) rfl ?_
    have q45 : (pj_fi G7 53 1).toInt = z4.toInt := by rw [show pj_fi G7 53 1 = z4 from by rw [hG7, pj_fi_wv_ne _ _ _ _ _ _ (by decide)]; exact (by rw [hG5]; exact pj_fi_wi hI.1 (ci := 4) rfl _)]
    have q46 : (pj_fi G7 53 2).toInt = z6.toInt := by rw [show pj_fi G7 53 2 = z6 from by rw [hG7]; exact pj_fi_wi iG5.1 (ci := 4) rfl _]
    exact pj_X_rt rfl rfl ⟨12, by decide, rfl, iG7, kG7, by omega⟩
  by_cases t47 : z4.toInt = 13
  · refine pj_X_aa iG7 rfl rfl (k := 13) (by show _ = ((13 : Nat) : Int); omega) (by decide) rfl ?_
    have q48 : (pj_fi G7 53 1).toInt = z4.toInt := by rw [show pj_fi G7 53 1 = z4 from by rw [hG7, pj_fi_wv_ne _ _ _ _ _ _ (by decide)]; exact (by rw [hG5]; exact pj_fi_wi hI.1 (ci := 4) rfl _)]
    have q49 : (pj_fi G7 53 2).toInt = z6.toInt := by rw [show pj_fi G7 53 2 = z6 from by rw [hG7]; exact pj_fi_wi iG5.1 (ci := 4) rfl _]
    exact pj_X_rt rfl rfl ⟨13, by decide, rfl, iG7, kG7, by omega⟩
  by_cases t50 : z4.toInt = 14
  · refine pj_X_aa iG7 rfl rfl (k := 14) (by show _ = ((14 : Nat) : Int); omega) (by decide) rfl ?_
    have q51 : (pj_fi G7 53 1).toInt = z4.toInt := by rw [show pj_fi G7 53 1 = z4 from by rw [hG7, pj_fi_wv_ne _ _ _ _ _ _ (by decide)]; exact (by rw [hG5]; exact pj_fi_wi hI.1 (ci := 4) rfl _)]
    have q52 : (pj_fi G7 53 2).toInt = z6.toInt := by rw [show pj_fi G7 53 2 = z6 from by rw [hG7]; exact pj_fi_wi iG5.1 (ci := 4) rfl _]
    exact pj_X_rt rfl rfl ⟨14, by decide, rfl, iG7, kG7, by omega⟩
  · refine pj_X_aa iG7 rfl rfl (k := 15) (by show _ = ((15 : Nat) : Int); omega) (by decide) rfl ?_
    have q53 : (pj_fi G7 53 1).toInt = z4.toInt := by rw [show pj_fi G7 53 1 = z4 from by rw [hG7, pj_fi_wv_ne _ _ _ _ _ _ (by decide)]; exact (by rw [hG5]; exact pj_fi_wi hI.1 (ci := 4) rfl _)]
    have q54 : (pj_fi G7 53 2).toInt = z6.toInt := by rw [show pj_fi G7 53 2 = z6 from by rw [hG7]; exact pj_fi_wi iG5.1 (ci := 4) rfl _]
    exact pj_X_rt rfl rfl ⟨15, by decide, rfl, iG7, kG7, by omega⟩
def kc_36n : pj_KT := ([(53, 2)], [53], [])
theorem ct_36n (G0 : pj_G) (hI : pj_Inv G0) : pj_Y 1 36 [.ref 53] G0 (fun v G' => v = none ∧ pj_Inv G' ∧ pj_kpt kc_36n G0 G' ∧ ((pj_fi G' 53 2).toInt = 0)) := by
  have c0_ : (Int32.ofInt 0).toInt = 0 := by decide
  refine pj_Y_X (M := pj_m36) rfl rfl (Nat.le_of_ble_eq_true rfl) ?_
  have hK : pj_kpt kc_36n G0 G0 := pj_kpt_r _ _
  show pj_X _ _ G0 0 [(0, .ref 53)] [] _
  obtain ⟨y1, hy1⟩ : ∃ z : Int32, z = pj_fi G0 53 2 := ⟨_, rfl⟩
  have ey1 : (pj_fi G0 53 2).toInt = y1.toInt := by rw [hy1]
  have ry1 : (0 : Int) ≤ y1.toInt ∧ y1.toInt ≤ 15 := by rw [hy1]; exact hI.2.1 53 2 (0, 15) rfl
  refine pj_X_of (fun r h => pj_R_to (G0, 2, [(0, .ref 53)], [.int (Int32.ofInt 0), .ref 53], 0, 0) 2 3 (fun _ => rfl) h) ?_
  refine pj_X_of (fun r h => pj_T_pf hI rfl rfl rfl h) ?_
  show pj_X _ _ (pj_wv G0 53 2 (.int (Int32.ofInt 0))) 5 [(0, .ref 53)] [] _
  obtain ⟨G2, hG2⟩ : ∃ H, H = pj_wv G0 53 2 (.int (Int32.ofInt 0)) := ⟨_, rfl⟩
  have iG2 : pj_Inv G2 := by rw [hG2]; exact pj_Inv_wi hI (ci := 4) rfl (fun q hq => by cases hq; exact ⟨by show (0 : Int) ≤ _; omega, by show _ ≤ (15 : Int); omega⟩)
  have kG2 : pj_kpt kc_36n G0 G2 := by rw [hG2]; exact pj_kpt_v hK rfl
  rw [← hG2]
  have q3 : (pj_fi G2 53 2).toInt = (Int32.ofInt 0).toInt := by rw [show pj_fi G2 53 2 = Int32.ofInt 0 from by rw [hG2]; exact pj_fi_wi hI.1 (ci := 4) rfl _]
  exact pj_X_rt rfl rfl ⟨rfl, iG2, kG2, by omega⟩
theorem ct_39n (G0 : pj_G) (hI : pj_Inv G0) (i : Int32) : pj_Y 1 39 [.ref 53, .int i, .ref 21] G0 (fun v G' => ∃ y : Int32, v = some (.int y) ∧ G0 = G' ∧ ((0 : Int) ≤ y.toInt ∧ y.toInt ≤ 1) ∧ (1 ≤ y.toInt → 0 ≤ i.toInt ∧ i.toInt ≤ 2 ∧ (i.toInt = 0 → (pj_fi G0 153 0).toInt = (pj_fi G0 21 0).toInt ∧ (pj_fi G0 153 5).toInt = (pj_fi G0 21 5).toInt) ∧ (i.toInt = 1 → (pj_fi G0 159 0).toInt = (pj_fi G0 21 0).toInt ∧ (pj_fi G0 159 5).toInt = (pj_fi G0 21 5).toInt) ∧ (i.toInt = 2 → (pj_fi G0 165 0).toInt = (pj_fi G0 21 0).toInt ∧ (pj_fi G0 165 5).toInt = (pj_fi G0 21 5).toInt))) := by
  have c0_ : (Int32.ofInt 0).toInt = 0 := by decide
  have c1_ : (Int32.ofInt 1).toInt = 1 := by decide
  have c2_ : (Int32.ofInt 3).toInt = 3 := by decide
  refine pj_Y_X (M := pj_m39) rfl rfl (Nat.le_of_ble_eq_true rfl) ?_
  have hK : pj_kpt ([], [], []) G0 G0 := pj_kpt_r _ _
  show pj_X _ _ G0 0 [(0, .ref 53), (1, .int i), (2, .ref 21)] [] _
  obtain ⟨y1, hy1⟩ : ∃ z : Int32, z = pj_fi G0 21 0 := ⟨_, rfl⟩
  have ey1 : (pj_fi G0 21 0).toInt = y1.toInt := by rw [hy1]
  have ry1 : (0 : Int) ≤ y1.toInt ∧ y1.toInt ≤ 6 := by rw [hy1]; exact hI.2.1 21 0 (0, 6) rfl
  obtain ⟨y2, hy2⟩ : ∃ z : Int32, z = pj_fi G0 21 5 := ⟨_, rfl⟩
  have ey2 : (pj_fi G0 21 5).toInt = y2.toInt := by rw [hy2]
  have ry2 : (0 : Int) ≤ y2.toInt ∧ y2.toInt ≤ 6 := by rw [hy2]; exact hI.2.1 21 5 (0, 6) rfl
  obtain ⟨y3, hy3⟩ : ∃ z : Int32, z = pj_fi G0 153 0 := ⟨_, rfl⟩
  have ey3 : (pj_fi G0 153 0).toInt = y3.toInt := by rw [hy3]
  have ry3 : (0 : Int) ≤ y3.toInt ∧ y3.toInt ≤ 6 := by rw [hy3]; exact hI.2.1 153 0 (0, 6) rfl
  obtain ⟨y4, hy4⟩ : ∃ z : Int32, z = pj_fi G0 153 5 := ⟨_, rfl⟩
  have ey4 : (pj_fi G0 153 5).toInt = y4.toInt := by rw [hy4]
  have ry4 : (0 : Int) ≤ y4.toInt ∧ y4.toInt ≤ 6 := by rw [hy4]; exact hI.2.1 153 5 (0, 6) rfl
  obtain ⟨y5, hy5⟩ : ∃ z : Int32, z = pj_fi G0 159 0 := ⟨_, rfl⟩
  have ey5 : (pj_fi G0 159 0).toInt = y5.toInt := by rw [hy5]
  have ry5 : (0 : Int) ≤ y5.toInt ∧ y5.toInt ≤ 6 := by rw [hy5]; exact hI.2.1 159 0 (0, 6) rfl
  obtain ⟨y6, hy6⟩ : ∃ z : Int32, z = pj_fi G0 159 5 := ⟨_, rfl⟩
  have ey6 : (pj_fi G0 159 5).toInt = y6.toInt := by rw [hy6]
  have ry6 : (0 : Int) ≤ y6.toInt ∧ y6.toInt ≤ 6 := by rw [hy6]; exact hI.2.1 159 5 (0, 6) rfl
  obtain ⟨y7, hy7⟩ : ∃ z : Int32, z = pj_fi G0 165 0 := ⟨_, rfl⟩
  have ey7 : (pj_fi G0 165 0).toInt = y7.toInt := by rw [hy7]
  have ry7 : (0 : Int) ≤ y7.toInt ∧ y7.toInt ≤ 6 := by rw [hy7]; exact hI.2.1 165 0 (0, 6) rfl
  obtain ⟨y8, hy8⟩ : ∃ z : Int32, z = pj_fi G0 165 5 := ⟨_, rfl⟩
  have ey8 : (pj_fi G0 165 5).toInt = y8.toInt := by rw [hy8]
  have ry8 : (0 : Int) ≤ y8.toInt ∧ y8.toInt ≤ 6 := by rw [hy8]; exact hI.2.1 165 5 (0, 6) rfl
  refine pj_X_of (fun r h => pj_R_to (G0, 1, [(0, .ref 53), (1, .int i), (2, .ref 21)], [.int i], 0, 0) 1 2 (fun _ => rfl) h) ?_
  cases b9 : pj_c1 .lt i 0 with
  | true =>
    have ub9 := pj_u0_ltT b9
    refine pj_X_of (fun r h => pj_R_ifT 54 rfl rfl b9 h) ?_
    refine pj_X_of (fun r h => pj_R_to (G0, 55, [(0, .ref 53), (1, .int i), (2, .ref 21)], [.int (Int32.ofInt 0)], 0, 0) 55 2 (fun _ => rfl) h) ?_
    have q10 : (pj_fi G0 21 0).toInt = y1.toInt := by rw [show pj_fi G0 21 0 = y1 from hy1.symm]
    have q11 : (pj_fi G0 21 5).toInt = y2.toInt := by rw [show pj_fi G0 21 5 = y2 from hy2.symm]
    have q12 : (pj_fi G0 153 0).toInt = y3.toInt := by rw [show pj_fi G0 153 0 = y3 from hy3.symm]
    have q13 : (pj_fi G0 153 5).toInt = y4.toInt := by rw [show pj_fi G0 153 5 = y4 from hy4.symm]
    have q14 : (pj_fi G0 159 0).toInt = y5.toInt := by rw [show pj_fi G0 159 0 = y5 from hy5.symm]
    have q15 : (pj_fi G0 159 5).toInt = y6.toInt := by rw [show pj_fi G0 159 5 = y6 from hy6.symm]
    have q16 : (pj_fi G0 165 0).toInt = y7.toInt := by rw [show pj_fi G0 165 0 = y7 from hy7.symm]
    have q17 : (pj_fi G0 165 5).toInt = y8.toInt := by rw [show pj_fi G0 165 5 = y8 from hy8.symm]
    exact pj_X_rt rfl rfl ⟨_, rfl, rfl, ⟨by omega, by omega⟩, by omega⟩
  | false =>
    have ub9 := pj_u0_ltF b9
    refine pj_X_of (fun r h => pj_R_ifF rfl b9 h) ?_
    refine pj_X_of (fun r h => pj_R_to (G0, 6, [(0, .ref 53), (1, .int i), (2, .ref 21)], [.int (Int32.ofInt 3), .int i], 0, 0) 6 3 (fun _ => rfl) h) ?_
    cases b18 : pj_c1 .ge i (Int32.ofInt 3) with
    | true =>
      have ub18 := pj_u_geT b18
      refine pj_X_of (fun r h => pj_R_icT 54 rfl rfl b18 h) ?_
      refine pj_X_of (fun r h => pj_R_to (G0, 55, [(0, .ref 53), (1, .int i), (2, .ref 21)], [.int (Int32.ofInt 0)], 0, 0) 55 2 (fun _ => rfl) h) ?_
      have q19 : (pj_fi G0 21 0).toInt = y1.toInt := by rw [show pj_fi G0 21 0 = y1 from hy1.symm]
      have q20 : (pj_fi G0 21 5).toInt = y2.toInt := by rw [show pj_fi G0 21 5 = y2 from hy2.symm]
      have q21 : (pj_fi G0 153 0).toInt = y3.toInt := by rw [show pj_fi G0 153 0 = y3 from hy3.symm]
      have q22 : (pj_fi G0 153 5).toInt = y4.toInt := by rw [show pj_fi G0 153 5 = y4 from hy4.symm]
      have q23 : (pj_fi G0 159 0).toInt = y5.toInt := by rw [show pj_fi G0 159 0 = y5 from hy5.symm]
      have q24 : (pj_fi G0 159 5).toInt = y6.toInt := by rw [show pj_fi G0 159 5 = y6 from hy6.symm]
      have q25 : (pj_fi G0 165 0).toInt = y7.toInt := by rw [show pj_fi G0 165 0 = y7 from hy7.symm]
      have q26 : (pj_fi G0 165 5).toInt = y8.toInt := by rw [show pj_fi G0 165 5 = y8 from hy8.symm]
      exact pj_X_rt rfl rfl ⟨_, rfl, rfl, ⟨by omega, by omega⟩, by omega⟩
    | false =>
      have ub18 := pj_u_geF b18
      refine pj_X_of (fun r h => pj_R_icF rfl b18 h) ?_
      refine pj_X_of (fun r h => pj_R_to (G0, 10, [(0, .ref 53), (1, .int i), (2, .ref 21)], [.ref 53], 0, 0) 10 2 (fun _ => rfl) h) ?_
      refine pj_X_of (fun r h => pj_T_gr hI rfl rfl rfl h) ?_
      refine pj_X_of (fun r h => pj_R_to (G0, 14, [(0, .ref 53), (1, .int i), (2, .ref 21)], [.int i, .ref 56], 0, 0) 14 2 (fun _ => rfl) h) ?_
      refine pj_X_of (fun r h => pj_T_bl hI rfl rfl (by omega) (by omega) h) ?_
      show pj_X _ _ G0 15 [(0, .ref 53), (1, .int i), (2, .ref 21)] [.int (pj_ai G0 56 i.toInt.toNat)] _
      obtain ⟨z27, hz27⟩ : ∃ z : Int32, z = pj_ai G0 56 i.toInt.toNat := ⟨_, rfl⟩
      refine pj_X_eqi hz27.symm ?_
      have ez27 : (pj_ai G0 56 i.toInt.toNat).toInt = z27.toInt := by rw [hz27]
      cases b28 : pj_c1 .eq z27 0 with
      | true =>
        have ub28 := pj_u0_eqT b28
        refine pj_X_of (fun r h => pj_R_ifT 54 rfl rfl b28 h) ?_
        refine pj_X_of (fun r h => pj_R_to (G0, 55, [(0, .ref 53), (1, .int i), (2, .ref 21)], [.int (Int32.ofInt 0)], 0, 0) 55 2 (fun _ => rfl) h) ?_
        have q29 : (pj_fi G0 21 0).toInt = y1.toInt := by rw [show pj_fi G0 21 0 = y1 from hy1.symm]
        have q30 : (pj_fi G0 21 5).toInt = y2.toInt := by rw [show pj_fi G0 21 5 = y2 from hy2.symm]
        have q31 : (pj_fi G0 153 0).toInt = y3.toInt := by rw [show pj_fi G0 153 0 = y3 from hy3.symm]
        have q32 : (pj_fi G0 153 5).toInt = y4.toInt := by rw [show pj_fi G0 153 5 = y4 from hy4.symm]
        have q33 : (pj_fi G0 159 0).toInt = y5.toInt := by rw [show pj_fi G0 159 0 = y5 from hy5.symm]
        have q34 : (pj_fi G0 159 5).toInt = y6.toInt := by rw [show pj_fi G0 159 5 = y6 from hy6.symm]
        have q35 : (pj_fi G0 165 0).toInt = y7.toInt := by rw [show pj_fi G0 165 0 = y7 from hy7.symm]
        have q36 : (pj_fi G0 165 5).toInt = y8.toInt := by rw [show pj_fi G0 165 5 = y8 from hy8.symm]
        exact pj_X_rt rfl rfl ⟨_, rfl, rfl, ⟨by omega, by omega⟩, by omega⟩
      | false =>
        have ub28 := pj_u0_eqF b28
        refine pj_X_of (fun r h => pj_R_ifF rfl b28 h) ?_
        refine pj_X_of (fun r h => pj_R_to (G0, 19, [(0, .ref 53), (1, .int i), (2, .ref 21)], [.ref 53], 0, 0) 19 2 (fun _ => rfl) h) ?_
        refine pj_X_of (fun r h => pj_T_gr hI rfl rfl rfl h) ?_
        refine pj_X_of (fun r h => pj_R_to (G0, 23, [(0, .ref 53), (1, .int i), (2, .ref 21)], [.int i, .ref 55], 0, 0) 23 2 (fun _ => rfl) h) ?_
        by_cases t37 : i.toInt = 0
        · refine pj_X_aa hI rfl rfl (k := 0) (by show _ = ((0 : Nat) : Int); omega) (by decide) rfl ?_
          refine pj_X_of (fun r h => pj_T_gi hI rfl rfl h) ?_
          show pj_X _ _ G0 27 [(0, .ref 53), (1, .int i), (2, .ref 21)] [.int (pj_fi G0 153 0)] _
          refine pj_X_eqi (show pj_fi G0 153 0 = y3 from hy3.symm) ?_
          refine pj_X_of (fun r h => pj_R_to (G0, 28, [(0, .ref 53), (1, .int i), (2, .ref 21)], [.ref 21, .int y3], 0, 0) 28 2 (fun _ => rfl) h) ?_
          refine pj_X_of (fun r h => pj_T_gi hI rfl rfl h) ?_
          show pj_X _ _ G0 31 [(0, .ref 53), (1, .int i), (2, .ref 21)] [.int (pj_fi G0 21 0), .int y3] _
          refine pj_X_eqi (show pj_fi G0 21 0 = y1 from hy1.symm) ?_
          cases b38 : pj_c1 .ne y3 y1 with
          | true =>
            have ub38 := pj_u_neT b38
            refine pj_X_of (fun r h => pj_R_icT 54 rfl rfl b38 h) ?_
            refine pj_X_of (fun r h => pj_R_to (G0, 55, [(0, .ref 53), (1, .int i), (2, .ref 21)], [.int (Int32.ofInt 0)], 0, 0) 55 2 (fun _ => rfl) h) ?_
            have q39 : (pj_fi G0 21 0).toInt = y1.toInt := by rw [show pj_fi G0 21 0 = y1 from hy1.symm]
            have q40 : (pj_fi G0 21 5).toInt = y2.toInt := by rw [show pj_fi G0 21 5 = y2 from hy2.symm]
            have q41 : (pj_fi G0 153 0).toInt = y3.toInt := by rw [show pj_fi G0 153 0 = y3 from hy3.symm]
            have q42 : (pj_fi G0 153 5).toInt = y4.toInt := by rw [show pj_fi G0 153 5 = y4 from hy4.symm]
            have q43 : (pj_fi G0 159 0).toInt = y5.toInt := by rw [show pj_fi G0 159 0 = y5 from hy5.symm]
            have q44 : (pj_fi G0 159 5).toInt = y6.toInt := by rw [show pj_fi G0 159 5 = y6 from hy6.symm]
            have q45 : (pj_fi G0 165 0).toInt = y7.toInt := by rw [show pj_fi G0 165 0 = y7 from hy7.symm]
            have q46 : (pj_fi G0 165 5).toInt = y8.toInt := by rw [show pj_fi G0 165 5 = y8 from hy8.symm]
            exact pj_X_rt rfl rfl ⟨_, rfl, rfl, ⟨by omega, by omega⟩, by omega⟩
          | false =>
            have ub38 := pj_u_neF b38
            refine pj_X_of (fun r h => pj_R_icF rfl b38 h) ?_
            refine pj_X_of (fun r h => pj_R_to (G0, 35, [(0, .ref 53), (1, .int i), (2, .ref 21)], [.ref 53], 0, 0) 35 2 (fun _ => rfl) h) ?_
            refine pj_X_of (fun r h => pj_T_gr hI rfl rfl rfl h) ?_
            refine pj_X_of (fun r h => pj_R_to (G0, 39, [(0, .ref 53), (1, .int i), (2, .ref 21)], [.int i, .ref 55], 0, 0) 39 2 (fun _ => rfl) h) ?_
            · refine pj_X_aa hI rfl rfl (k := 0) (by show _ = ((0 : Nat) : Int); omega) (by decide) rfl ?_
              refine pj_X_of (fun r h => pj_T_gi hI rfl rfl h) ?_
              show pj_X _ _ G0 43 [(0, .ref 53), (1, .int i), (2, .ref 21)] [.int (pj_fi G0 153 5)] _
              refine pj_X_eqi (show pj_fi G0 153 5 = y4 from hy4.symm) ?_
              refine pj_X_of (fun r h => pj_R_to (G0, 44, [(0, .ref 53), (1, .int i), (2, .ref 21)], [.ref 21, .int y4], 0, 0) 44 2 (fun _ => rfl) h) ?_
              refine pj_X_of (fun r h => pj_T_gi hI rfl rfl h) ?_
              show pj_X _ _ G0 47 [(0, .ref 53), (1, .int i), (2, .ref 21)] [.int (pj_fi G0 21 5), .int y4] _
              refine pj_X_eqi (show pj_fi G0 21 5 = y2 from hy2.symm) ?_
              cases b47 : pj_c1 .ne y4 y2 with
              | true =>
                have ub47 := pj_u_neT b47
                refine pj_X_of (fun r h => pj_R_icT 54 rfl rfl b47 h) ?_
                refine pj_X_of (fun r h => pj_R_to (G0, 55, [(0, .ref 53), (1, .int i), (2, .ref 21)], [.int (Int32.ofInt 0)], 0, 0) 55 2 (fun _ => rfl) h) ?_
                have q48 : (pj_fi G0 21 0).toInt = y1.toInt := by rw [show pj_fi G0 21 0 = y1 from hy1.symm]
                have q49 : (pj_fi G0 21 5).toInt = y2.toInt := by rw [show pj_fi G0 21 5 = y2 from hy2.symm]
                have q50 : (pj_fi G0 153 0).toInt = y3.toInt := by rw [show pj_fi G0 153 0 = y3 from hy3.symm]
                have q51 : (pj_fi G0 153 5).toInt = y4.toInt := by rw [show pj_fi G0 153 5 = y4 from hy4.symm]
                have q52 : (pj_fi G0 159 0).toInt = y5.toInt := by rw [show pj_fi G0 159 0 = y5 from hy5.symm]
                have q53 : (pj_fi G0 159 5).toInt = y6.toInt := by rw [show pj_fi G0 159 5 = y6 from hy6.symm]
                have q54 : (pj_fi G0 165 0).toInt = y7.toInt := by rw [show pj_fi G0 165 0 = y7 from hy7.symm]
                have q55 : (pj_fi G0 165 5).toInt = y8.toInt := by rw [show pj_fi G0 165 5 = y8 from hy8.symm]
                exact pj_X_rt rfl rfl ⟨_, rfl, rfl, ⟨by omega, by omega⟩, by omega⟩
              | false =>
                have ub47 := pj_u_neF b47
                refine pj_X_of (fun r h => pj_R_icF rfl b47 h) ?_
                refine pj_X_of (fun r h => pj_R_to (G0, 55, [(0, .ref 53), (1, .int i), (2, .ref 21)], [.int (Int32.ofInt 1)], 0, 0) 55 3 (fun _ => rfl) h) ?_
                have q56 : (pj_fi G0 21 0).toInt = y1.toInt := by rw [show pj_fi G0 21 0 = y1 from hy1.symm]
                have q57 : (pj_fi G0 21 5).toInt = y2.toInt := by rw [show pj_fi G0 21 5 = y2 from hy2.symm]
                have q58 : (pj_fi G0 153 0).toInt = y3.toInt := by rw [show pj_fi G0 153 0 = y3 from hy3.symm]
                have q59 : (pj_fi G0 153 5).toInt = y4.toInt := by rw [show pj_fi G0 153 5 = y4 from hy4.symm]
                have q60 : (pj_fi G0 159 0).toInt = y5.toInt := by rw [show pj_fi G0 159 0 = y5 from hy5.symm]
                have q61 : (pj_fi G0 159 5).toInt = y6.toInt := by rw [show pj_fi G0 159 5 = y6 from hy6.symm]
                have q62 : (pj_fi G0 165 0).toInt = y7.toInt := by rw [show pj_fi G0 165 0 = y7 from hy7.symm]
                have q63 : (pj_fi G0 165 5).toInt = y8.toInt := by rw [show pj_fi G0 165 5 = y8 from hy8.symm]
                exact pj_X_rt rfl rfl ⟨_, rfl, rfl, ⟨by omega, by omega⟩, by omega⟩
        by_cases t64 : i.toInt = 1
        · refine pj_X_aa hI rfl rfl (k := 1) (by show _ = ((1 : Nat) : Int); omega) (by decide) rfl ?_
          refine pj_X_of (fun r h => pj_T_gi hI rfl rfl h) ?_
          show pj_X _ _ G0 27 [(0, .ref 53), (1, .int i), (2, .ref 21)] [.int (pj_fi G0 159 0)] _
          refine pj_X_eqi (show pj_fi G0 159 0 = y5 from hy5.symm) ?_
          refine pj_X_of (fun r h => pj_R_to (G0, 28, [(0, .ref 53), (1, .int i), (2, .ref 21)], [.ref 21, .int y5], 0, 0) 28 2 (fun _ => rfl) h) ?_
          refine pj_X_of (fun r h => pj_T_gi hI rfl rfl h) ?_
          show pj_X _ _ G0 31 [(0, .ref 53), (1, .int i), (2, .ref 21)] [.int (pj_fi G0 21 0), .int y5] _
          refine pj_X_eqi (show pj_fi G0 21 0 = y1 from hy1.symm) ?_
          cases b65 : pj_c1 .ne y5 y1 with
          | true =>
            have ub65 := pj_u_neT b65
            refine pj_X_of (fun r h => pj_R_icT 54 rfl rfl b65 h) ?_
            refine pj_X_of (fun r h => pj_R_to (G0, 55, [(0, .ref 53), (1, .int i), (2, .ref 21)], [.int (Int32.ofInt 0)], 0, 0) 55 2 (fun _ => rfl) h) ?_
            have q66 : (pj_fi G0 21 0).toInt = y1.toInt := by rw [show pj_fi G0 21 0 = y1 from hy1.symm]
            have q67 : (pj_fi G0 21 5).toInt = y2.toInt := by rw [show pj_fi G0 21 5 = y2 from hy2.symm]
            have q68 : (pj_fi G0 153 0).toInt = y3.toInt := by rw [show pj_fi G0 153 0 = y3 from hy3.symm]
            have q69 : (pj_fi G0 153 5).toInt = y4.toInt := by rw [show pj_fi G0 153 5 = y4 from hy4.symm]
            have q70 : (pj_fi G0 159 0).toInt = y5.toInt := by rw [show pj_fi G0 159 0 = y5 from hy5.symm]
            have q71 : (pj_fi G0 159 5).toInt = y6.toInt := by rw [show pj_fi G0 159 5 = y6 from hy6.symm]
            have q72 : (pj_fi G0 165 0).toInt = y7.toInt := by rw [show pj_fi G0 165 0 = y7 from hy7.symm]
            have q73 : (pj_fi G0 165 5).toInt = y8.toInt := by rw [show pj_fi G0 165 5 = y8 from hy8.symm]
            exact pj_X_rt rfl rfl ⟨_, rfl, rfl, ⟨by omega, by omega⟩, by omega⟩
          | false =>
            have ub65 := pj_u_neF b65
            refine pj_X_of (fun r h => pj_R_icF rfl b65 h) ?_
            refine pj_X_of (fun r h => pj_R_to (G0, 35, [(0, .ref 53), (1, .int i), (2, .ref 21)], [.ref 53], 0, 0) 35 2 (fun _ => rfl) h) ?_
            refine pj_X_of (fun r h => pj_T_gr hI rfl rfl rfl h) ?_
            refine pj_X_of (fun r h => pj_R_to (G0, 39, [(0, .ref 53), (1, .int i), (2, .ref 21)], [.int i, .ref 55], 0, 0) 39 2 (fun _ => rfl) h) ?_
            · refine pj_X_aa hI rfl rfl (k := 1) (by show _ = ((1 : Nat) : Int); omega) (by decide) rfl ?_
              refine pj_X_of (fun r h => pj_T_gi hI rfl rfl h) ?_
              show pj_X _ _ G0 43 [(0, .ref 53), (1, .int i), (2, .ref 21)] [.int (pj_fi G0 159 5)] _
              refine pj_X_eqi (show pj_fi G0 159 5 = y6 from hy6.symm) ?_
              refine pj_X_of (fun r h => pj_R_to (G0, 44, [(0, .ref 53), (1, .int i), (2, .ref 21)], [.ref 21, .int y6], 0, 0) 44 2 (fun _ => rfl) h) ?_
              refine pj_X_of (fun r h => pj_T_gi hI rfl rfl h) ?_
              show pj_X _ _ G0 47 [(0, .ref 53), (1, .int i), (2, .ref 21)] [.int (pj_fi G0 21 5), .int y6] _
              refine pj_X_eqi (show pj_fi G0 21 5 = y2 from hy2.symm) ?_
              cases b74 : pj_c1 .ne y6 y2 with
              | true =>
                have ub74 := pj_u_neT b74
                refine pj_X_of (fun r h => pj_R_icT 54 rfl rfl b74 h) ?_
                refine pj_X_of (fun r h => pj_R_to (G0, 55, [(0, .ref 53), (1, .int i), (2, .ref 21)], [.int (Int32.ofInt 0)], 0, 0) 55 2 (fun _ => rfl) h) ?_
                have q75 : (pj_fi G0 21 0).toInt = y1.toInt := by rw [show pj_fi G0 21 0 = y1 from hy1.symm]
                have q76 : (pj_fi G0 21 5).toInt = y2.toInt := by rw [show pj_fi G0 21 5 = y2 from hy2.symm]
                have q77 : (pj_fi G0 153 0).toInt = y3.toInt := by rw [show pj_fi G0 153 0 = y3 from hy3.symm]
                have q78 : (pj_fi G0 153 5).toInt = y4.toInt := by rw [show pj_fi G0 153 5 = y4 from hy4.symm]
                have q79 : (pj_fi G0 159 0).toInt = y5.toInt := by rw [show pj_fi G0 159 0 = y5 from hy5.symm]
                have q80 : (pj_fi G0 159 5).toInt = y6.toInt := by rw [show pj_fi G0 159 5 = y6 from hy6.symm]
                have q81 : (pj_fi G0 165 0).toInt = y7.toInt := by rw [show pj_fi G0 165 0 = y7 from hy7.symm]
                have q82 : (pj_fi G0 165 5).toInt = y8.toInt := by rw [show pj_fi G0 165 5 = y8 from hy8.symm]
                exact pj_X_rt rfl rfl ⟨_, rfl, rfl, ⟨by omega, by omega⟩, by omega⟩
              | false =>
                have ub74 := pj_u_neF b74
                refine pj_X_of (fun r h => pj_R_icF rfl b74 h) ?_
                refine pj_X_of (fun r h => pj_R_to (G0, 55, [(0, .ref 53), (1, .int i), (2, .ref 21)], [.int (Int32.ofInt 1)], 0, 0) 55 3 (fun _ => rfl) h) ?_
                have q83 : (pj_fi G0 21 0).toInt = y1.toInt := by rw [show pj_fi G0 21 0 = y1 from hy1.symm]
                have q84 : (pj_fi G0 21 5).toInt = y2.toInt := by rw [show pj_fi G0 21 5 = y2 from hy2.symm]
                have q85 : (pj_fi G0 153 0).toInt = y3.toInt := by rw [show pj_fi G0 153 0 = y3 from hy3.symm]
                have q86 : (pj_fi G0 153 5).toInt = y4.toInt := by rw [show pj_fi G0 153 5 = y4 from hy4.symm]
                have q87 : (pj_fi G0 159 0).toInt = y5.toInt := by rw [show pj_fi G0 159 0 = y5 from hy5.symm]
                have q88 : (pj_fi G0 159 5).toInt = y6.toInt := by rw [show pj_fi G0 159 5 = y6 from hy6.symm]
                have q89 : (pj_fi G0 165 0).toInt = y7.toInt := by rw [show pj_fi G0 165 0 = y7 from hy7.symm]
                have q90 : (pj_fi G0 165 5).toInt = y8.toInt := by rw [show pj_fi G0 165 5 = y8 from hy8.symm]
                exact pj_X_rt rfl rfl ⟨_, rfl, rfl, ⟨by omega, by omega⟩, by omega⟩
        · refine pj_X_aa hI rfl rfl (k := 2) (by show _ = ((2 : Nat) : Int); omega) (by decide) rfl ?_
          refine pj_X_of (fun r h => pj_T_gi hI rfl rfl h) ?_
          show pj_X _ _ G0 27 [(0, .ref 53), (1, .int i), (2, .ref 21)] [.int (pj_fi G0 165 0)] _
          refine pj_X_eqi (show pj_fi G0 165 0 = y7 from hy7.symm) ?_
          refine pj_X_of (fun r h => pj_R_to (G0, 28, [(0, .ref 53), (1, .int i), (2, .ref 21)], [.ref 21, .int y7], 0, 0) 28 2 (fun _ => rfl) h) ?_
          refine pj_X_of (fun r h => pj_T_gi hI rfl rfl h) ?_
          show pj_X _ _ G0 31 [(0, .ref 53), (1, .int i), (2, .ref 21)] [.int (pj_fi G0 21 0), .int y7] _
          refine pj_X_eqi (show pj_fi G0 21 0 = y1 from hy1.symm) ?_
          cases b91 : pj_c1 .ne y7 y1 with
          | true =>
            have ub91 := pj_u_neT b91
            refine pj_X_of (fun r h => pj_R_icT 54 rfl rfl b91 h) ?_
            refine pj_X_of (fun r h => pj_R_to (G0, 55, [(0, .ref 53), (1, .int i), (2, .ref 21)], [.int (Int32.ofInt 0)], 0, 0) 55 2 (fun _ => rfl) h) ?_
            have q92 : (pj_fi G0 21 0).toInt = y1.toInt := by rw [show pj_fi G0 21 0 = y1 from hy1.symm]
            have q93 : (pj_fi G0 21 5).toInt = y2.toInt := by rw [show pj_fi G0 21 5 = y2 from hy2.symm]
            have q94 : (pj_fi G0 153 0).toInt = y3.toInt := by rw [show pj_fi G0 153 0 = y3 from hy3.symm]
            have q95 : (pj_fi G0 153 5).toInt = y4.toInt := by rw [show pj_fi G0 153 5 = y4 from hy4.symm]
            have q96 : (pj_fi G0 159 0).toInt = y5.toInt := by rw [show pj_fi G0 159 0 = y5 from hy5.symm]
            have q97 : (pj_fi G0 159 5).toInt = y6.toInt := by rw [show pj_fi G0 159 5 = y6 from hy6.symm]
            have q98 : (pj_fi G0 165 0).toInt = y7.toInt := by rw [show pj_fi G0 165 0 = y7 from hy7.symm]
            have q99 : (pj_fi G0 165 5).toInt = y8.toInt := by rw [show pj_fi G0 165 5 = y8 from hy8.symm]
            exact pj_X_rt rfl rfl ⟨_, rfl, rfl, ⟨by omega, by omega⟩, by omega⟩
          | false =>
            have ub91 := pj_u_neF b91
            refine pj_X_of (fun r h => pj_R_icF rfl b91 h) ?_
            refine pj_X_of (fun r h => pj_R_to (G0, 35, [(0, .ref 53), (1, .int i), (2, .ref 21)], [.ref 53], 0, 0) 35 2 (fun _ => rfl) h) ?_
            refine pj_X_of (fun r h => pj_T_gr hI rfl rfl rfl h) ?_
            refine pj_X_of (fun r h => pj_R_to (G0, 39, [(0, .ref 53), (1, .int i), (2, .ref 21)], [.int i, .ref 55], 0, 0) 39 2 (fun _ => rfl) h) ?_
            · refine pj_X_aa hI rfl rfl (k := 2) (by show _ = ((2 : Nat) : Int); omega) (by decide) rfl ?_
              refine pj_X_of (fun r h => pj_T_gi hI rfl rfl h) ?_
              show pj_X _ _ G0 43 [(0, .ref 53), (1, .int i), (2, .ref 21)] [.int (pj_fi G0 165 5)] _
              refine pj_X_eqi (show pj_fi G0 165 5 = y8 from hy8.symm) ?_
              refine pj_X_of (fun r h => pj_R_to (G0, 44, [(0, .ref 53), (1, .int i), (2, .ref 21)], [.ref 21, .int y8], 0, 0) 44 2 (fun _ => rfl) h) ?_
              refine pj_X_of (fun r h => pj_T_gi hI rfl rfl h) ?_
              show pj_X _ _ G0 47 [(0, .ref 53), (1, .int i), (2, .ref 21)] [.int (pj_fi G0 21 5), .int y8] _
              refine pj_X_eqi (show pj_fi G0 21 5 = y2 from hy2.symm) ?_
              cases b100 : pj_c1 .ne y8 y2 with
              | true =>
                have ub100 := pj_u_neT b100
                refine pj_X_of (fun r h => pj_R_icT 54 rfl rfl b100 h) ?_
                refine pj_X_of (fun r h => pj_R_to (G0, 55, [(0, .ref 53), (1, .int i), (2, .ref 21)], [.int (Int32.ofInt 0)], 0, 0) 55 2 (fun _ => rfl) h) ?_
                have q101 : (pj_fi G0 21 0).toInt = y1.toInt := by rw [show pj_fi G0 21 0 = y1 from hy1.symm]
                have q102 : (pj_fi G0 21 5).toInt = y2.toInt := by rw [show pj_fi G0 21 5 = y2 from hy2.symm]
                have q103 : (pj_fi G0 153 0).toInt = y3.toInt := by rw [show pj_fi G0 153 0 = y3 from hy3.symm]
                have q104 : (pj_fi G0 153 5).toInt = y4.toInt := by rw [show pj_fi G0 153 5 = y4 from hy4.symm]
                have q105 : (pj_fi G0 159 0).toInt = y5.toInt := by rw [show pj_fi G0 159 0 = y5 from hy5.symm]
                have q106 : (pj_fi G0 159 5).toInt = y6.toInt := by rw [show pj_fi G0 159 5 = y6 from hy6.symm]
                have q107 : (pj_fi G0 165 0).toInt = y7.toInt := by rw [show pj_fi G0 165 0 = y7 from hy7.symm]
                have q108 : (pj_fi G0 165 5).toInt = y8.toInt := by rw [show pj_fi G0 165 5 = y8 from hy8.symm]
                exact pj_X_rt rfl rfl ⟨_, rfl, rfl, ⟨by omega, by omega⟩, by omega⟩
              | false =>
                have ub100 := pj_u_neF b100
                refine pj_X_of (fun r h => pj_R_icF rfl b100 h) ?_
                refine pj_X_of (fun r h => pj_R_to (G0, 55, [(0, .ref 53), (1, .int i), (2, .ref 21)], [.int (Int32.ofInt 1)], 0, 0) 55 3 (fun _ => rfl) h) ?_
                have q109 : (pj_fi G0 21 0).toInt = y1.toInt := by rw [show pj_fi G0 21 0 = y1 from hy1.symm]
                have q110 : (pj_fi G0 21 5).toInt = y2.toInt := by rw [show pj_fi G0 21 5 = y2 from hy2.symm]
                have q111 : (pj_fi G0 153 0).toInt = y3.toInt := by rw [show pj_fi G0 153 0 = y3 from hy3.symm]
                have q112 : (pj_fi G0 153 5).toInt = y4.toInt := by rw [show pj_fi G0 153 5 = y4 from hy4.symm]
                have q113 : (pj_fi G0 159 0).toInt = y5.toInt := by rw [show pj_fi G0 159 0 = y5 from hy5.symm]
                have q114 : (pj_fi G0 159 5).toInt = y6.toInt := by rw [show pj_fi G0 159 5 = y6 from hy6.symm]
                have q115 : (pj_fi G0 165 0).toInt = y7.toInt := by rw [show pj_fi G0 165 0 = y7 from hy7.symm]
                have q116 : (pj_fi G0 165 5).toInt = y8.toInt := by rw [show pj_fi G0 165 5 = y8 from hy8.symm]
                exact pj_X_rt rfl rfl ⟨_, rfl, rfl, ⟨by omega, by omega⟩, by omega⟩
