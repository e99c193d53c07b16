def kc_33nx : pj_KT := ([(57, 0), (57, 5), (57, 7), (57, 8), (63, 0), (63, 5), (63, 7), (63, 8), (69, 0), (69, 5), (69, 7), (69, 8), (75, 0), (75, 5), (75, 7), (75, 8), (81, 0), (81, 5), (81, 7), (81, 8), (87, 0), (87, 5), (87, 7), (87, 8), (93, 0), (93, 5), (93, 7), (93, 8), (99, 0), (99, 5), (99, 7), (99, 8), (105, 0), (105, 5), (105, 7), (105, 8), (111, 0), (111, 5), (111, 7), (111, 8), (117, 0), (117, 5), (117, 7), (117, 8), (123, 0), (123, 5), (123, 7), (123, 8), (129, 0), (129, 5), (129, 7), (129, 8), (135, 0), (135, 5), (135, 7), (135, 8), (141, 0), (141, 5), (141, 7), (141, 8), (147, 0), (147, 5), (147, 7), (147, 8)], [57, 58, 59, 60, 61, 62, 63, 64, 65, 66, 67, 68, 69, 70, 71, 72, 73, 74, 75, 76, 77, 78, 79, 80, 81, 82, 83, 84, 85, 86, 87, 88, 89, 90, 91, 92, 93, 94, 95, 96, 97, 98, 99, 100, 101, 102, 103, 104, 105, 106, 107, 108, 109, 110, 111, 112, 113, 114, 115, 116, 117, 118, 119, 120, 121, 122, 123, 124, 125, 126, 127, 128, 129, 130, 131, 132, 133, 134, 135, 136, 137, 138, 139, 140, 141, 142, 143, 144, 145, 146, 147, 148, 149, 150, 151, 152], [58, 59, 60, 61, 62, 64, 65, 66, 67, 68, 70, 71, 72, 73, 74, 76, 77, 78, 79, 80, 82, 83, 84, 85, 86, 88, 89, 90, 91, 92, 94, 95, 96, 97, 98, 100, 101, 102, 103, 104, 106, 107, 108, 109, 110, 112, 113, 114, 115, 116, 118, 119, 120, 121, 122, 124, 125, 126, 127, 128, 130, 131, 132, 133, 134, 136, 137, 138, 139, 140, 142, 143, 144, 145, 146, 148, 149, 150, 151, 152])
noncomputable def F_33nx (G0 : pj_G) : pj_G := pj_nm (pj_fi G0 53 1) (fun y1 => if y1.toInt = 0 then (pj_nm (F_68_57_21x G0) (fun G5 => G5)) else (if y1.toInt = 1 then (pj_nm (F_68_63_21x G0) (fun G12 => G12)) else (if y1.toInt = 2 then (pj_nm (F_68_69_21x G0) (fun G19 => G19)) else (if y1.toInt = 3 then (pj_nm (F_68_75_21x G0) (fun G26 => G26)) else (if y1.toInt = 4 then (pj_nm (F_68_81_21x G0) (fun G33 => G33)) else (if y1.toInt = 5 then (pj_nm (F_68_87_21x G0) (fun G40 => G40)) else (if y1.toInt = 6 then (pj_nm (F_68_93_21x G0) (fun G47 => G47)) else (if y1.toInt = 7 then (pj_nm (F_68_99_21x G0) (fun G54 => G54)) else (if y1.toInt = 8 then (pj_nm (F_68_105_21x G0) (fun G61 => G61)) else (if y1.toInt = 9 then (pj_nm (F_68_111_21x G0) (fun G68 => G68)) else (if y1.toInt = 10 then (pj_nm (F_68_117_21x G0) (fun G75 => G75)) else (if y1.toInt = 11 then (pj_nm (F_68_123_21x G0) (fun G82 => G82)) else (if y1.toInt = 12 then (pj_nm (F_68_129_21x G0) (fun G89 => G89)) else (if y1.toInt = 13 then (pj_nm (F_68_135_21x G0) (fun G96 => G96)) else (if y1.toInt = 14 then (pj_nm (F_68_141_21x G0) (fun G103 => G103)) else (pj_nm (F_68_147_21x G0) (fun G109 => G109)))))))))))))))))
theorem F_33nx_e (G0 : pj_G) : F_33nx G0 = pj_nm (pj_fi G0 53 1) (fun y1 => if y1.toInt = 0 then (pj_nm (F_68_57_21x G0) (fun G5 => G5)) else (if y1.toInt = 1 then (pj_nm (F_68_63_21x G0) (fun G12 => G12)) else (if y1.toInt = 2 then (pj_nm (F_68_69_21x G0) (fun G19 => G19)) else (if y1.toInt = 3 then (pj_nm (F_68_75_21x G0) (fun G26 => G26)) else (if y1.toInt = 4 then (pj_nm (F_68_81_21x G0) (fun G33 => G33)) else (if y1.toInt = 5 then (pj_nm (F_68_87_21x G0) (fun G40 => G40)) else (if y1.toInt = 6 then (pj_nm (F_68_93_21x G0) (fun G47 => G47)) else (if y1.toInt = 7 then (pj_nm (F_68_99_21x G0) (fun G54 => G54)) else (if y1.toInt = 8 then (pj_nm (F_68_105_21x G0) (fun G61 => G61)) else (if y1.toInt = 9 then (pj_nm (F_68_111_21x G0) (fun G68 => G68)) else (if y1.toInt = 10 then (pj_nm (F_68_117_21x G0) (fun G75 => G75)) else (if y1.toInt = 11 then (pj_nm (F_68_123_21x G0) (fun G82 => G82)) else (if y1.toInt = 12 then (pj_nm (F_68_129_21x G0) (fun G89 => G89)) else (if y1.toInt = 13 then (pj_nm (F_68_135_21x G0) (fun G96 => G96)) else (if y1.toInt = 14 then (pj_nm (F_68_141_21x G0) (fun G103 => G103)) else (pj_nm (F_68_147_21x G0) (fun G109 => G109))))))))))))))))) := rfl
theorem ct_33nx (G0 : pj_G) (hI : pj_Inv G0) : pj_Y 2 33 [.ref 53, .ref 21] G0 (fun v' G' => v' = none ∧ pj_Inv G' ∧ pj_kpt kc_33nx G0 G' ∧ (∀ H, G0 = H → (mr_nt H G')) ∧ (G' = F_33nx G0)) := by
  refine pj_Y_X (M := pj_m33) rfl rfl (Nat.le_of_ble_eq_true rfl) ?_
  have hK : pj_kpt kc_33nx G0 G0 := pj_kpt_r _ _
  show pj_X _ _ G0 0 [(0, .ref 53), (1, .ref 21)] [] _
  rw [F_33nx_e]
  obtain ⟨y1, hy1⟩ : ∃ z : Int32, z = pj_fi G0 53 1 := ⟨_, rfl⟩
  have ey1 : (pj_fi G0 53 1).toInt = y1.toInt := by rw [hy1]
  have ry1 : (0 : Int) ≤ y1.toInt ∧ y1.toInt ≤ 15 := by rw [hy1]; exact hI.2.1 53 1 (0, 15) rfl
  refine pj_X_of (fun r h => pj_R_to (G0, 1, [(0, .ref 53), (1, .ref 21)], [.ref 53], 0, 0) 1 2 (fun _ => rfl) h) ?_
  refine pj_X_of (fun r h => pj_T_gr hI rfl rfl rfl h) ?_
  refine pj_X_of (fun r h => pj_R_to (G0, 5, [(0, .ref 53), (1, .ref 21)], [.ref 53, .ref 54], 0, 0) 5 2 (fun _ => rfl) h) ?_
  refine pj_X_of (fun r h => pj_T_gi hI rfl rfl h) ?_
  show pj_X _ _ G0 8 [(0, .ref 53), (1, .ref 21)] [.int (pj_fi G0 53 1), .ref 54] _
  rw [← hy1, pj_nm_e]
  by_cases t2 : y1.toInt = 0
  · refine pj_X_aa hI rfl rfl (k := 0) (by show _ = ((0 : Nat) : Int); omega) (by decide) rfl ?_
    rw [if_pos t2]
    refine pj_X_of (fun r h => pj_R_to (G0, 10, [(0, .ref 53), (1, .ref 21)], [.ref 21, .ref 57], 0, 0) 10 2 (fun _ => rfl) h) ?_
    have q3 : (pj_fi G0 53 1).toInt = y1.toInt := by rw [show pj_fi G0 53 1 = y1 from hy1.symm]
    refine pj_X_ca (vs := [.ref 57, .ref 21]) rfl (fun _ => rfl) ⟨Nat.le_of_ble_eq_true rfl, Nat.le_of_ble_eq_true rfl, pj_T_rcv hI rfl⟩ ⟨rfl, rfl⟩ (pj_Y_up (by decide) (ct_68_57_21x G0 hI)) ?_
    rintro _ G5 ⟨rfl, iG5, jG5, eG5, fy4⟩
    replace eG5 := eG5 _ rfl
    rw [← fy4, pj_nm_e]
    have kG5 : pj_kpt kc_33nx G0 G5 := pj_kpt_t hK (pj_kpt_s jG5 rfl)
    have q6 : (pj_fi G5 53 1).toInt = (pj_fi G0 53 1).toInt := by rw [jG5.1 (53, 1) (by decide)]
    obtain ⟨y7, hy7⟩ : ∃ z : Int32, z = pj_fi G5 53 1 := ⟨_, rfl⟩
    have ey7 : (pj_fi G5 53 1).toInt = y7.toInt := by rw [hy7]
    have ry7 : (0 : Int) ≤ y7.toInt ∧ y7.toInt ≤ 15 := by rw [hy7]; exact iG5.2.1 53 1 (0, 15) rfl
    show pj_X _ _ G5 13 [(0, .ref 53), (1, .ref 21)] [] _
    have q8 : (pj_fi G5 53 1).toInt = y7.toInt := by rw [show pj_fi G5 53 1 = y7 from hy7.symm]
    exact pj_X_rt rfl rfl ⟨rfl, iG5, kG5, (fun H hH => by subst hH; exact (mr_nt1 0 (by omega) jG5 rfl eG5)), rfl⟩
  rw [if_neg t2]
  by_cases t9 : y1.toInt = 1
  · refine pj_X_aa hI rfl rfl (k := 1) (by show _ = ((1 : Nat) : Int); omega) (by decide) rfl ?_
    rw [if_pos t9]
    refine pj_X_of (fun r h => pj_R_to (G0, 10, [(0, .ref 53), (1, .ref 21)], [.ref 21, .ref 63], 0, 0) 10 2 (fun _ => rfl) h) ?_
    have q10 : (pj_fi G0 53 1).toInt = y1.toInt := by rw [show pj_fi G0 53 1 = y1 from hy1.symm]
    refine pj_X_ca (vs := [.ref 63, .ref 21]) rfl (fun _ => rfl) ⟨Nat.le_of_ble_eq_true rfl, Nat.le_of_ble_eq_true rfl, pj_T_rcv hI rfl⟩ ⟨rfl, rfl⟩ (pj_Y_up (by decide) (ct_68_63_21x G0 hI)) ?_
    rintro _ G12 ⟨rfl, iG12, jG12, eG12, fy11⟩
    replace eG12 := eG12 _ rfl
    rw [← fy11, pj_nm_e]
    have kG12 : pj_kpt kc_33nx G0 G12 := pj_kpt_t hK (pj_kpt_s jG12 rfl)
    have q13 : (pj_fi G12 53 1).toInt = (pj_fi G0 53 1).toInt := by rw [jG12.1 (53, 1) (by decide)]
    obtain ⟨y14, hy14⟩ : ∃ z : Int32, z = pj_fi G12 53 1 := ⟨_, rfl⟩
    have ey14 : (pj_fi G12 53 1).toInt = y14.toInt := by rw [hy14]
    have ry14 : (0 : Int) ≤ y14.toInt ∧ y14.toInt ≤ 15 := by rw [hy14]; exact iG12.2.1 53 1 (0, 15) rfl
    show pj_X _ _ G12 13 [(0, .ref 53), (1, .ref 21)] [] _
    have q15 : (pj_fi G12 53 1).toInt = y14.toInt := by rw [show pj_fi G12 53 1 = y14 from hy14.symm]
    exact pj_X_rt rfl rfl ⟨rfl, iG12, kG12, (fun H hH => by subst hH; exact (mr_nt1 1 (by omega) jG12 rfl eG12)), rfl⟩
  rw [if_neg t9]
  by_cases t16 : y1.toInt = 2
  · refine pj_X_aa hI rfl rfl (k := 2) (by show _ = ((2 : Nat) : Int); omega) (by decide) rfl ?_
    rw [if_pos t16]
    refine pj_X_of (fun r h => pj_R_to (G0, 10, [(0, .ref 53), (1, .ref 21)], [.ref 21, .ref 69], 0, 0) 10 2 (fun _ => rfl) h) ?_
    have q17 : (pj_fi G0 53 1).toInt = y1.toInt := by rw [show pj_fi G0 53 1 = y1 from hy1.symm]
    refine pj_X_ca (vs := [.ref 69, .ref 21]) rfl (fun _ => rfl) ⟨Nat.le_of_ble_eq_true rfl, Nat.le_of_ble_eq_true rfl, pj_T_rcv hI rfl⟩ ⟨rfl, rfl⟩ (pj_Y_up (by decide) (ct_68_69_21x G0 hI)) ?_
    rintro _ G19 ⟨rfl, iG19, jG19, eG19, fy18⟩
    replace eG19 := eG19 _ rfl
    rw [← fy18, pj_nm_e]
    have kG19 : pj_kpt kc_33nx G0 G19 := pj_kpt_t hK (pj_kpt_s jG19 rfl)
    have q20 : (pj_fi G19 53 1).toInt = (pj_fi G0 53 1).toInt := by rw [jG19.1 (53, 1) (by decide)]
    obtain ⟨y21, hy21⟩ : ∃ z : Int32, z = pj_fi G19 53 1 := ⟨_, rfl⟩
    have ey21 : (pj_fi G19 53 1).toInt = y21.toInt := by rw [hy21]
    have ry21 : (0 : Int) ≤ y21.toInt ∧ y21.toInt ≤ 15 := by rw [hy21]; exact iG19.2.1 53 1 (0, 15) rfl
    show pj_X _ _ G19 13 [(0, .ref 53), (1, .ref 21)] [] _
    have q22 : (pj_fi G19 53 1).toInt = y21.toInt := by rw [show pj_fi G19 53 1 = y21 from hy21.symm]
    exact pj_X_rt rfl rfl ⟨rfl, iG19, kG19, (fun H hH => by subst hH; exact (mr_nt1 2 (by omega) jG19 rfl eG19)), rfl⟩
  rw [if_neg t16]
  by_cases t23 : y1.toInt = 3
  · refine pj_X_aa hI rfl rfl (k := 3) (by show _ = ((3 : Nat) : Int); omega) (by decide) rfl ?_
    rw [if_pos t23]
    refine pj_X_of (fun r h => pj_R_to (G0, 10, [(0, .ref 53), (1, .ref 21)], [.ref 21, .ref 75], 0, 0) 10 2 (fun _ => rfl) h) ?_
    have q24 : (pj_fi G0 53 1).toInt = y1.toInt := by rw [show pj_fi G0 53 1 = y1 from hy1.symm]
    refine pj_X_ca (vs := [.ref 75, .ref 21]) rfl (fun _ => rfl) ⟨Nat.le_of_ble_eq_true rfl, Nat.le_of_ble_eq_true rfl, pj_T_rcv hI rfl⟩ ⟨rfl, rfl⟩ (pj_Y_up (by decide) (ct_68_75_21x G0 hI)) ?_
    rintro _ G26 ⟨rfl, iG26, jG26, eG26, fy25⟩
    replace eG26 := eG26 _ rfl
    rw [← fy25, pj_nm_e]
    have kG26 : pj_kpt kc_33nx G0 G26 := pj_kpt_t hK (pj_kpt_s jG26 rfl)
    have q27 : (pj_fi G26 53 1).toInt = (pj_fi G0 53 1).toInt := by rw [jG26.1 (53, 1) (by decide)]
    obtain ⟨y28, hy28⟩ : ∃ z : Int32, z = pj_fi G26 53 1 := ⟨_, rfl⟩
    have ey28 : (pj_fi G26 53 1).toInt = y28.toInt := by rw [hy28]
    have ry28 : (0 : Int) ≤ y28.toInt ∧ y28.toInt ≤ 15 := by rw [hy28]; exact iG26.2.1 53 1 (0, 15) rfl
    show pj_X _ _ G26 13 [(0, .ref 53), (1, .ref 21)] [] _
    have q29 : (pj_fi G26 53 1).toInt = y28.toInt := by rw [show pj_fi G26 53 1 = y28 from hy28.symm]
    exact pj_X_rt rfl rfl ⟨rfl, iG26, kG26, (fun H hH => by subst hH; exact (mr_nt1 3 (by omega) jG26 rfl eG26)), rfl⟩
  rw [if_neg t23]
  by_cases t30 : y1.toInt = 4
  · refine pj_X_aa hI rfl rfl (k := 4) (by show _ = ((4 : Nat) : Int); omega) (by decide) rfl ?_
    rw [if_pos t30]
    refine pj_X_of (fun r h => pj_R_to (G0, 10, [(0, .ref 53), (1, .ref 21)], [.ref 21, .ref 81], 0, 0) 10 2 (fun _ => rfl) h) ?_
    have q31 : (pj_fi G0 53 1).toInt = y1.toInt := by rw [show pj_fi G0 53 1 = y1 from hy1.symm]
    refine pj_X_ca (vs := [.ref 81, .ref 21]) rfl (fun _ => rfl) ⟨Nat.le_of_ble_eq_true rfl, Nat.le_of_ble_eq_true rfl, pj_T_rcv hI rfl⟩ ⟨rfl, rfl⟩ (pj_Y_up (by decide) (ct_68_81_21x G0 hI)) ?_
    rintro _ G33 ⟨rfl, iG33, jG33, eG33, fy32⟩
    replace eG33 := eG33 _ rfl
    rw [← fy32, pj_nm_e]
    have kG33 : pj_kpt kc_33nx G0 G33 := pj_kpt_t hK (pj_kpt_s jG33 rfl)
    have q34 : (pj_fi G33 53 1).toInt = (pj_fi G0 53 1).toInt := by rw [jG33.1 (53, 1) (by decide)]
    obtain ⟨y35, hy35⟩ : ∃ z : Int32, z = pj_fi G33 53 1 := ⟨_, rfl⟩
    have ey35 : (pj_fi G33 53 1).toInt = y35.toInt := by rw [hy35]
    have ry35 : (0 : Int) ≤ y35.toInt ∧ y35.toInt ≤ 15 := by rw [hy35]; exact iG33.2.1 53 1 (0, 15) rfl
    show pj_X _ _ G33 13 [(0, .ref 53), (1, .ref 21)] [] _
    have q36 : (pj_fi G33 53 1).toInt = y35.toInt := by rw [show pj_fi G33 53 1 = y35 from hy35.symm]
    exact pj_X_rt rfl rfl ⟨rfl, iG33, kG33, (fun H hH => by subst hH; exact (mr_nt1 4 (by omega) jG33 rfl eG33)), rfl⟩
  rw [if_neg t30]
  by_cases t37 : y1.toInt = 5
  · refine pj_X_aa hI rfl rfl (k := 5) (by show _ = ((5 : Nat) : Int); omega) (by decide) rfl ?_
    rw [if_pos t37]
    refine pj_X_of (fun r h => pj_R_to (G0, 10, [(0, .ref 53), (1, .ref 21)], [.ref 21, .ref 87], 0, 0) 10 2 (fun _ => rfl) h) ?_
    have q38 : (pj_fi G0 53 1).toInt = y1.toInt := by rw [show pj_fi G0 53 1 = y1 from hy1.symm]
    refine pj_X_ca (vs := [.ref 87, .ref 21]) rfl (fun _ => rfl) ⟨Nat.le_of_ble_eq_true rfl, Nat.le_of_ble_eq_true rfl, pj_T_rcv hI rfl⟩ ⟨rfl, rfl⟩ (pj_Y_up (by decide) (ct_68_87_21x G0 hI)) ?_
    rintro _ G40 ⟨rfl, iG40, jG40, eG40, fy39⟩
    replace eG40 := eG40 _ rfl
    rw [← fy39, pj_nm_e]
    have kG40 : pj_kpt kc_33nx G0 G40 := pj_kpt_t hK (pj_kpt_s jG40 rfl)
    have q41 : (pj_fi G40 53 1).toInt = (pj_fi G0 53 1).toInt := by rw [jG40.1 (53, 1) (by decide)]
    obtain ⟨y42, hy42⟩ : ∃ z : Int32, z = pj_fi G40 53 1 := ⟨_, rfl⟩
    have ey42 : (pj_fi G40 53 1).toInt = y42.toInt := by rw [hy42]
    have ry42 : (0 : Int) ≤ y42.toInt ∧ y42.toInt ≤ 15 := by rw [hy42]; exact iG40.2.1 53 1 (0, 15) rfl
    show pj_X _ _ G40 13 [(0, .ref 53), (1, .ref 21)] [] _
    have q43 : (pj_fi G40 53 1).toInt = y42.toInt := by rw [show pj_fi G40 53 1 = y42 from hy42.symm]
    exact pj_X_rt rfl rfl ⟨rfl, iG40, kG40, (fun H hH => by subst hH; exact (mr_nt1 5 (by omega) jG40 rfl eG40)), rfl⟩
  rw [if_neg t37]
  by_cases t44 : y1.toInt = 6
  · refine pj_X_aa hI rfl rfl (k := 6) (by show _ = ((6 : Nat) : Int); omega) (by decide) rfl ?_
    rw [if_pos t44]
    refine pj_X_of (fun r h => pj_R_to (G0, 10, [(0, .ref 53), (1, .ref 21)], [.ref 21, .ref 93], 0, 0) 10 2 (fun _ => rfl) h) ?_
    have q45 : (pj_fi G0 53 1).toInt = y1.toInt := by rw [show pj_fi G0 53 1 = y1 from hy1.symm]
    refine pj_X_ca (vs := [.ref 93, .ref 21]) rfl (fun _ => rfl) ⟨Nat.le_of_ble_eq_true rfl, Nat.le_of_ble_eq_true rfl, pj_T_rcv hI rfl⟩ ⟨rfl, rfl⟩ (pj_Y_up (by decide) (ct_68_93_21x G0 hI)) ?_
    rintro _ G47 ⟨rfl, iG47, jG47, eG47, fy46⟩
    replace eG47 := eG47 _ rfl
    rw [← fy46, pj_nm_e]
    have kG47 : pj_kpt kc_33nx G0 G47 := pj_kpt_t hK (pj_kpt_s jG47 rfl)
    have q48 : (pj_fi G47 53 1).toInt = (pj_fi G0 53 1).toInt := by rw [jG47.1 (53, 1) (by decide)]
    obtain ⟨y49, hy49⟩ : ∃ z : Int32, z = pj_fi G47 53 1 := ⟨_, rfl⟩
    have ey49 : (pj_fi G47 53 1).toInt = y49.toInt := by rw [hy49]
    have ry49 : (0 : Int) ≤ y49.toInt ∧ y49.toInt ≤ 15 := by rw [hy49]; exact iG47.2.1 53 1 (0, 15) rfl
    show pj_X _ _ G47 13 [(0, .ref 53), (1, .ref 21)] [] _
    have q50 : (pj_fi G47 53 1).toInt = y49.toInt := by rw [show pj_fi G47 53 1 = y49 from hy49.symm]
    exact pj_X_rt rfl rfl ⟨rfl, iG47, kG47, (fun H hH => by subst hH; exact (mr_nt1 6 (by omega) jG47 rfl eG47)), rfl⟩
  rw [if_neg t44]
  by_cases t51 : y1.toInt = 7
  · refine pj_X_aa hI rfl rfl (k := 7) (by show _ = ((7 : Nat) : Int); omega) (by decide) rfl ?_
    rw [if_pos t51]
    refine pj_X_of (fun r h => pj_R_to (G0, 10, [(0, .ref 53), (1, .ref 21)], [.ref 21, .ref 99], 0, 0) 10 2 (fun _ => rfl) h) ?_
    have q52 : (pj_fi G0 53 1).toInt = y1.toInt := by rw [show pj_fi G0 53 1 = y1 from hy1.symm]
    refine pj_X_ca (vs := [.ref 99, .ref 21]) rfl (fun _ => rfl) ⟨Nat.le_of_ble_eq_true rfl, Nat.le_of_ble_eq_true rfl, pj_T_rcv hI rfl⟩ ⟨rfl, rfl⟩ (pj_Y_up (by decide) (ct_68_99_21x G0 hI)) ?_
    rintro _ G54 ⟨rfl, iG54, jG54, eG54, fy53⟩
    replace eG54 := eG54 _ rfl
    rw [← fy53, pj_nm_e]
    have kG54 : pj_kpt kc_33nx G0 G54 := pj_kpt_t hK (pj_kpt_s jG54 rfl)
    have q55 : (pj_fi G54 53 1).toInt = (pj_fi G0 53 1).toInt := by rw [jG54.1 (53, 1) (by decide)]
    obtain ⟨y56, hy56⟩ : ∃ z : Int32, z = pj_fi G54 53 1 := ⟨_, rfl⟩
    have ey56 : (pj_fi G54 53 1).toInt = y56.toInt := by rw [hy56]
    have ry56 : (0 : Int) ≤ y56.toInt ∧ y56.toInt ≤ 15 := by rw [hy56]; exact iG54.2.1 53 1 (0, 15) rfl
    show pj_X _ _ G54 13 [(0, .ref 53), (1, .ref 21)] [] _
    have q57 : (pj_fi G54 53 1).toInt = y56.toInt := by rw [show pj_fi G54 53 1 = y56 from hy56.symm]
    exact pj_X_rt rfl rfl ⟨rfl, iG54, kG54, (fun H hH => by subst hH; exact (mr_nt1 7 (by omega) jG54 rfl eG54)), rfl⟩
  rw [if_neg t51]
  by_cases t58 : y1.toInt = 8
  · refine pj_X_aa hI rfl rfl (k := 8) (by show _ = ((8 : Nat) : Int); omega) (by decide) rfl ?_
    rw [if_pos t58]
    refine pj_X_of (fun r h => pj_R_to (G0, 10, [(0, .ref 53), (1, .ref 21)], [.ref 21, .ref 105], 0, 0) 10 2 (fun _ => rfl) h) ?_
    have q59 : (pj_fi G0 53 1).toInt = y1.toInt := by rw [show pj_fi G0 53 1 = y1 from hy1.symm]
    refine pj_X_ca (vs := [.ref 105, .ref 21]) rfl (fun _ => rfl) ⟨Nat.le_of_ble_eq_true rfl, Nat.le_of_ble_eq_true rfl, pj_T_rcv hI rfl⟩ ⟨rfl, rfl⟩ (pj_Y_up (by decide) (ct_68_105_21x G0 hI)) ?_
    rintro _ G61 ⟨rfl, iG61, jG61, eG61, fy60⟩
    replace eG61 := eG61 _ rfl
    rw [← fy60, pj_nm_e]
    have kG61 : pj_kpt kc_33nx G0 G61 := pj_kpt_t hK (pj_kpt_s jG61 rfl)
    have q62 : (pj_fi G61 53 1).toInt = (pj_fi G0 53 1).toInt := by rw [jG61.1 (53, 1) (by decide)]
    obtain ⟨y63, hy63⟩ : ∃ z : Int32, z = pj_fi G61 53 1 := ⟨_, rfl⟩
    have ey63 : (pj_fi G61 53 1).toInt = y63.toInt := by rw [hy63]
    have ry63 : (0 : Int) ≤ y63.toInt ∧ y63.toInt ≤ 15 := by rw [hy63]; exact iG61.2.1 53 1 (0, 15) rfl
    show pj_X _ _ G61 13 [(0, .ref 53), (1, .ref 21)] [] _
    have q64 : (pj_fi G61 53 1).toInt = y63.toInt := by rw [show pj_fi G61 53 1 = y63 from hy63.symm]
    exact pj_X_rt rfl rfl ⟨rfl, iG61, kG61, (fun H hH => by subst hH; exact (mr_nt1 8 (by omega) jG61 rfl eG61)), rfl⟩
  rw [if_neg t58]
  by_cases t65 : y1.toInt = 9
  · refine pj_X_aa hI rfl rfl (k := 9) (by show _ = ((9 : Nat) : Int); omega) (by decide) rfl ?_
    rw [if_pos t65]
    refine pj_X_of (fun r h => pj_R_to (G0, 10, [(0, .ref 53), (1, .ref 21)], [.ref 21, .ref 111], 0, 0) 10 2 (fun _ => rfl) h) ?_
    have q66 : (pj_fi G0 53 1).toInt = y1.toInt := by rw [show pj_fi G0 53 1 = y1 from hy1.symm]
    refine pj_X_ca (vs := [.ref 111, .ref 21]) rfl (fun _ => rfl) ⟨Nat.le_of_ble_eq_true rfl, Nat.le_of_ble_eq_true rfl, pj_T_rcv hI rfl⟩ ⟨rfl, rfl⟩ (pj_Y_up (by decide) (ct_68_111_21x G0 hI)) ?_
    rintro _ G68 ⟨rfl, iG68, jG68, eG68, fy67⟩
    replace eG68 := eG68 _ rfl
    rw [← fy67, pj_nm_e]
    have kG68 : pj_kpt kc_33nx G0 G68 := pj_kpt_t hK (pj_kpt_s jG68 rfl)
    have q69 : (pj_fi G68 53 1).toInt = (pj_fi G0 53 1).toInt := by rw [jG68.1 (53, 1) (by decide)]
    obtain ⟨y70, hy70⟩ : ∃ z : Int32, z = pj_fi G68 53 1 := ⟨_, rfl⟩
    have ey70 : (pj_fi G68 53 1).toInt = y70.toInt := by rw [hy70]
    have ry70 : (0 : Int) ≤ y70.toInt ∧ y70.toInt ≤ 15 := by rw [hy70]; exact iG68.2.1 53 1 (0, 15) rfl
    show pj_X _ _ G68 13 [(0, .ref 53), (1, .ref 21)] [] _
    have q71 : (pj_fi G68 53 1).toInt = y70.toInt := by rw [show pj_fi G68 53 1 = y70 from hy70.symm]
    exact pj_X_rt rfl rfl ⟨rfl, iG68, kG68, (fun H hH => by subst hH; exact (mr_nt1 9 (by omega) jG68 rfl eG68)), rfl⟩
  rw [if_neg t65]
  by_cases t72 : y1.toInt = 10
  · refine pj_X_aa hI rfl rfl (k := 10) (by show _ = ((10 : Nat) : Int); omega) (by decide) rfl ?_
    rw [if_pos t72]
    refine pj_X_of (fun r h => pj_R_to (G0, 10, [(0, .ref 53), (1, .ref 21)], [.ref 21, .ref 117], 0, 0) 10 2 (fun _ => rfl) h) ?_
    have q73 : (pj_fi G0 53 1).toInt = y1.toInt := by rw [show pj_fi G0 53 1 = y1 from hy1.symm]
    refine pj_X_ca (vs := [.ref 117, .ref 21]) rfl (fun _ => rfl) ⟨Nat.le_of_ble_eq_true rfl, Nat.le_of_ble_eq_true rfl, pj_T_rcv hI rfl⟩ ⟨rfl, rfl⟩ (pj_Y_up (by decide) (ct_68_117_21x G0 hI)) ?_
    rintro _ G75 ⟨rfl, iG75, jG75, eG75, fy74⟩
    replace eG75 := eG75 _ rfl
    rw [← fy74, pj_nm_e]
    have kG75 : pj_kpt kc_33nx G0 G75 := pj_kpt_t hK (pj_kpt_s jG75 rfl)
    have q76 : (pj_fi G75 53 1).toInt = (pj_fi G0 53 1).toInt := by rw [jG75.1 (53, 1) (by decide)]
    obtain ⟨y77, hy77⟩ : ∃ z : Int32, z = pj_fi G75 53 1 := ⟨_, rfl⟩
    have ey77 : (pj_fi G75 53 1).toInt = y77.toInt := by rw [hy77]
    have ry77 : (0 : Int) ≤ y77.toInt ∧ y77.toInt ≤ 15 := by rw [hy77]; exact iG75.2.1 53 1 (0, 15) rfl
    show pj_X _ _ G75 13 [(0, .ref 53), (1, .ref 21)] [] _
    have q78 : (pj_fi G75 53 1).toInt = y77.toInt := by rw [show pj_fi G75 53 1 = y77 from hy77.symm]
    exact pj_X_rt rfl rfl ⟨rfl, iG75, kG75, (fun H hH => by subst hH; exact (mr_nt1 10 (by omega) jG75 rfl eG75)), rfl⟩
  rw [if_neg t72]
  by_cases t79 : y1.toInt = 11
  · refine pj_X_aa hI rfl rfl (k := 11) (by show _ = ((11 : Nat) : Int); omega) (by decide) rfl ?_
    rw [if_pos t79]
    refine pj_X_of (fun r h => pj_R_to (G0, 10, [(0, .ref 53), (1, .ref 21)], [.ref 21, .ref 123], 0, 0) 10 2 (fun _ => rfl) h) ?_
    have q80 : (pj_fi G0 53 1).toInt = y1.toInt := by rw [show pj_fi G0 53 1 = y1 from hy1.symm]
    refine pj_X_ca (vs := [.ref 123, .ref 21]) rfl (fun _ => rfl) ⟨Nat.le_of_ble_eq_true rfl, Nat.le_of_ble_eq_true rfl, pj_T_rcv hI rfl⟩ ⟨rfl, rfl⟩ (pj_Y_up (by decide) (ct_68_123_21x G0 hI)) ?_
    rintro _ G82 ⟨rfl, iG82, jG82, eG82, fy81⟩
    replace eG82 := eG82 _ rfl
    rw [← fy81, pj_nm_e]
    have kG82 : pj_kpt kc_33nx G0 G82 := pj_kpt_t hK (pj_kpt_s jG82 rfl)
    have q83 : (pj_fi G82 53 1).toInt = (pj_fi G0 53 1).toInt := by rw [jG82.1 (53, 1) (by decide)]
    obtain ⟨y84, hy84⟩ : ∃ z : Int32, z = pj_fi G82 53 1 := ⟨_, rfl⟩
    have ey84 : (pj_fi G82 53 1).toInt = y84.toInt := by rw [hy84]
    have ry84 : (0 : Int) ≤ y84.toInt ∧ y84.toInt ≤ 15 := by rw [hy84]; exact iG82.2.1 53 1 (0, 15) rfl
    show pj_X _ _ G82 13 [(0, .ref 53), (1, .ref 21)] [] _
    have q85 : (pj_fi G82 53 1).toInt = y84.toInt := by rw [show pj_fi G82 53 1 = y84 from hy84.symm]
    exact pj_X_rt rfl rfl ⟨rfl, iG82, kG82, (fun H hH => by subst hH; exact (mr_nt1 11 (by omega) jG82 rfl eG82)), rfl⟩
  rw [if_neg t79]
  by_cases t86 : y1.toInt = 12
  · refine pj_X_aa hI rfl rfl (k := 12) (by show _ = ((12 : Nat) : Int); omega) (by decide) rfl ?_
    rw [if_pos t86]
    refine pj_X_of (fun r h => pj_R_to (G0, 10, [(0, .ref 53), (1, .ref 21)], [.ref 21, .ref 129], 0, 0) 10 2 (fun _ => rfl) h) ?_
    have q87 : (pj_fi G0 53 1).toInt = y1.toInt := by rw [show pj_fi G0 53 1 = y1 from hy1.symm]
    refine pj_X_ca (vs := [.ref 129, .ref 21]) rfl (fun _ => rfl) ⟨Nat.le_of_ble_eq_true rfl, Nat.le_of_ble_eq_true rfl, pj_T_rcv hI rfl⟩ ⟨rfl, rfl⟩ (pj_Y_up (by decide) (ct_68_129_21x G0 hI)) ?_
    rintro _ G89 ⟨rfl, iG89, jG89, eG89, fy88⟩
    replace eG89 := eG89 _ rfl
    rw [← fy88, pj_nm_e]
    have kG89 : pj_kpt kc_33nx G0 G89 := pj_kpt_t hK (pj_kpt_s jG89 rfl)
    have q90 : (pj_fi G89 53 1).toInt = (pj_fi G0 53 1).toInt := by rw [jG89.1 (53, 1) (by decide)]
    obtain ⟨y91, hy91⟩ : ∃ z : Int32, z = pj_fi G89 53 1 := ⟨_, rfl⟩
    have ey91 : (pj_fi G89 53 1).toInt = y91.toInt := by rw [hy91]
    have ry91 : (0 : Int) ≤ y91.toInt ∧ y91.toInt ≤ 15 := by rw [hy91]; exact iG89.2.1 53 1 (0, 15) rfl
    show pj_X _ _ G89 13 [(0, .ref 53), (1, .ref 21)] [] _
    have q92 : (pj_fi G89 53 1).toInt = y91.toInt := by rw [show pj_fi G89 53 1 = y91 from hy91.symm]
    exact pj_X_rt rfl rfl ⟨rfl, iG89, kG89, (fun H hH => by subst hH; exact (mr_nt1 12 (by omega) jG89 rfl eG89)), rfl⟩
  rw [if_neg t86]
  by_cases t93 : y1.toInt = 13
  · refine pj_X_aa hI rfl rfl (k := 13) (by show _ = ((13 : Nat) : Int); omega) (by decide) rfl ?_
    rw [if_pos t93]
    refine pj_X_of (fun r h => pj_R_to (G0, 10, [(0, .ref 53), (1, .ref 21)], [.ref 21, .ref 135], 0, 0) 10 2 (fun _ => rfl) h) ?_
    have q94 : (pj_fi G0 53 1).toInt = y1.toInt := by rw [show pj_fi G0 53 1 = y1 from hy1.symm]
    refine pj_X_ca (vs := [.ref 135, .ref 21]) rfl (fun _ => rfl) ⟨Nat.le_of_ble_eq_true rfl, Nat.le_of_ble_eq_true rfl, pj_T_rcv hI rfl⟩ ⟨rfl, rfl⟩ (pj_Y_up (by decide) (ct_68_135_21x G0 hI)) ?_
    rintro _ G96 ⟨rfl, iG96, jG96, eG96, fy95⟩
    replace eG96 := eG96 _ rfl
    rw [← fy95, pj_nm_e]
    have kG96 : pj_kpt kc_33nx G0 G96 := pj_kpt_t hK (pj_kpt_s jG96 rfl)
    have q97 : (pj_fi G96 53 1).toInt = (pj_fi G0 53 1).toInt := by rw [jG96.1 (53, 1) (by decide)]
    obtain ⟨y98, hy98⟩ : ∃ z : Int32, z = pj_fi G96 53 1 := ⟨_, rfl⟩
    have ey98 : (pj_fi G96 53 1).toInt = y98.toInt := by rw [hy98]
    have ry98 : (0 : Int) ≤ y98.toInt ∧ y98.toInt ≤ 15 := by rw [hy98]; exact iG96.2.1 53 1 (0, 15) rfl
    show pj_X _ _ G96 13 [(0, .ref 53), (1, .ref 21)] [] _
    have q99 : (pj_fi G96 53 1).toInt = y98.toInt := by rw [show pj_fi G96 53 1 = y98 from hy98.symm]
    exact pj_X_rt rfl rfl ⟨rfl, iG96, kG96, (fun H hH => by subst hH; exact (mr_nt1 13 (by omega) jG96 rfl eG96)), rfl⟩
  rw [if_neg t93]
  by_cases t100 : y1.toInt = 14
  · refine pj_X_aa hI rfl rfl (k := 14) (by show _ = ((14 : Nat) : Int); omega) (by decide) rfl ?_
    rw [if_pos t100]
    refine pj_X_of (fun r h => pj_R_to (G0, 10, [(0, .ref 53), (1, .ref 21)], [.ref 21, .ref 141], 0, 0) 10 2 (fun _ => rfl) h) ?_
    have q101 : (pj_fi G0 53 1).toInt = y1.toInt := by rw [show pj_fi G0 53 1 = y1 from hy1.symm]
    refine pj_X_ca (vs := [.ref 141, .ref 21]) rfl (fun _ => rfl) ⟨Nat.le_of_ble_eq_true rfl, Nat.le_of_ble_eq_true rfl, pj_T_rcv hI rfl⟩ ⟨rfl, rfl⟩ (pj_Y_up (by decide) (ct_68_141_21x G0 hI)) ?_
    rintro _ G103 ⟨rfl, iG103, jG103, eG103, fy102⟩
    replace eG103 := eG103 _ rfl
    rw [← fy102, pj_nm_e]
    have kG103 : pj_kpt kc_33nx G0 G103 := pj_kpt_t hK (pj_kpt_s jG103 rfl)
    have q104 : (pj_fi G103 53 1).toInt = (pj_fi G0 53 1).toInt := by rw [jG103.1 (53, 1) (by decide)]
    obtain ⟨y105, hy105⟩ : ∃ z : Int32, z = pj_fi G103 53 1 := ⟨_, rfl⟩
    have ey105 : (pj_fi G103 53 1).toInt = y105.toInt := by rw [hy105]
    have ry105 : (0 : Int) ≤ y105.toInt ∧ y105.toInt ≤ 15 := by rw [hy105]; exact iG103.2.1 53 1 (0, 15) rfl
    show pj_X _ _ G103 13 [(0, .ref 53), (1, .ref 21)] [] _
    have q106 : (pj_fi G103 53 1).toInt = y105.toInt := by rw [show pj_fi G103 53 1 = y105 from hy105.symm]
    exact pj_X_rt rfl rfl ⟨rfl, iG103, kG103, (fun H hH => by subst hH; exact (mr_nt1 14 (by omega) jG103 rfl eG103)), rfl⟩
  rw [if_neg t100]
  · refine pj_X_aa hI rfl rfl (k := 15) (by show _ = ((15 : Nat) : Int); omega) (by decide) rfl ?_
    refine pj_X_of (fun r h => pj_R_to (G0, 10, [(0, .ref 53), (1, .ref 21)], [.ref 21, .ref 147], 0, 0) 10 2 (fun _ => rfl) h) ?_
    have q107 : (pj_fi G0 53 1).toInt = y1.toInt := by rw [show pj_fi G0 53 1 = y1 from hy1.symm]
    refine pj_X_ca (vs := [.ref 147, .ref 21]) rfl (fun _ => rfl) ⟨Nat.le_of_ble_eq_true rfl, Nat.le_of_ble_eq_true rfl, pj_T_rcv hI rfl⟩ ⟨rfl, rfl⟩ (pj_Y_up (by decide) (ct_68_147_21x G0 hI)) ?_
    rintro _ G109 ⟨rfl, iG109, jG109, eG109, fy108⟩
    replace eG109 := eG109 _ rfl
    rw [← fy108, pj_nm_e]
    have kG109 : pj_kpt kc_33nx G0 G109 := pj_kpt_t hK (pj_kpt_s jG109 rfl)
    have q110 : (pj_fi G109 53 1).toInt = (pj_fi G0 53 1).toInt := by rw [jG109.1 (53, 1) (by decide)]
    obtain ⟨y111, hy111⟩ : ∃ z : Int32, z = pj_fi G109 53 1 := ⟨_, rfl⟩
    have ey111 : (pj_fi G109 53 1).toInt = y111.toInt := by rw [hy111]
    have ry111 : (0 : Int) ≤ y111.toInt ∧ y111.toInt ≤ 15 := by rw [hy111]; exact iG109.2.1 53 1 (0, 15) rfl
    show pj_X _ _ G109 13 [(0, .ref 53), (1, .ref 21)] [] _
    have q112 : (pj_fi G109 53 1).toInt = y111.toInt := by rw [show pj_fi G109 53 1 = y111 from hy111.symm]
    exact pj_X_rt rfl rfl ⟨rfl, iG109, kG109, (fun H hH => by subst hH; exact (mr_nt1 15 (by omega) jG109 rfl eG109)), rfl⟩
theorem fr_33nx (G0 : pj_G) (hI : pj_Inv G0) : pj_Inv (F_33nx G0) ∧ pj_kpt kc_33nx G0 (F_33nx G0) ∧ (mr_nt G0 (F_33nx G0)) := by
  obtain ⟨v, G', -, -, i, j, x, e⟩ := ct_33nx G0 hI 
  rw [← e]
  exact ⟨i, j, x _ rfl⟩
def kc_34nx : pj_KT := ([(53, 1), (53, 2)], [53], [])
noncomputable def F_34nx (G0 : pj_G) (dn : Int32) : pj_G := cond (pj_c1 .eq dn 0) (G0) (pj_nm (pj_fi G0 53 1) (fun y1 => pj_nm (y1 + (Int32.ofInt 1)) (fun z6 => pj_nm (z6 - z6 / (Int32.ofNat 16) * (Int32.ofNat 16)) (fun z7 => pj_nm (pj_wv G0 53 1 (.int z7)) (fun G8 => pj_nm (pj_fi G0 53 2) (fun y2 => pj_nm (y2 + (Int32.ofInt 1)) (fun z9 => pj_nm ((if ((Int8.ofInt 15).toInt32) < z9 then ((Int8.ofInt 15).toInt32) else z9)) (fun z10 => pj_nm (pj_wv G8 53 2 (.int z10)) (fun G11 => G11)))))))))
theorem F_34nx_e (G0 : pj_G) (dn : Int32) : F_34nx G0 dn = cond (pj_c1 .eq dn 0) (G0) (pj_nm (pj_fi G0 53 1) (fun y1 => pj_nm (y1 + (Int32.ofInt 1)) (fun z6 => pj_nm (z6 - z6 / (Int32.ofNat 16) * (Int32.ofNat 16)) (fun z7 => pj_nm (pj_wv G0 53 1 (.int z7)) (fun G8 => pj_nm (pj_fi G0 53 2) (fun y2 => pj_nm (y2 + (Int32.ofInt 1)) (fun z9 => pj_nm ((if ((Int8.ofInt 15).toInt32) < z9 then ((Int8.ofInt 15).toInt32) else z9)) (fun z10 => pj_nm (pj_wv G8 53 2 (.int z10)) (fun G11 => G11))))))))) := rfl
theorem ct_34nx (G0 : pj_G) (hI : pj_Inv G0) (dn : Int32) (rdn : (0 : Int) ≤ dn.toInt ∧ dn.toInt ≤ 1) : pj_Y 1 34 [.ref 53, .int dn] G0 (fun v' G' => v' = none ∧ pj_Inv G' ∧ pj_kpt kc_34nx G0 G' ∧ (∀ H, G0 = H → ((dn.toInt = 0 → (pj_fi G' 53 1).toInt = (pj_fi H 53 1).toInt ∧ (pj_fi G' 53 2).toInt = (pj_fi H 53 2).toInt) ∧ (1 ≤ dn.toInt → (pj_fi G' 53 1).toInt = ((pj_fi H 53 1).toInt + 1) % 16 ∧ (pj_fi G' 53 2).toInt ≤ (pj_fi H 53 2).toInt + 1 ∧ (pj_fi G' 53 2).toInt ≤ 15))) ∧ (G' = F_34nx G0 dn)) := by
  have c0_ : ((Int8.ofInt 15).toInt32).toInt = 15 := by decide
  have c1_ : (Int32.ofInt 1).toInt = 1 := by decide
  have c2_ : (Int32.ofNat 16).toInt = 16 := by decide
  refine pj_Y_X (M := pj_m34) rfl rfl (Nat.le_of_ble_eq_true rfl) ?_
  have hK : pj_kpt kc_34nx G0 G0 := pj_kpt_r _ _
  show pj_X _ _ G0 0 [(0, .ref 53), (1, .int dn)] [] _
  rw [F_34nx_e]
  obtain ⟨y1, hy1⟩ : ∃ z : Int32, z = pj_fi G0 53 1 := ⟨_, rfl⟩
  have ey1 : (pj_fi G0 53 1).toInt = y1.toInt := by rw [hy1]
  have ry1 : (0 : Int) ≤ y1.toInt ∧ y1.toInt ≤ 15 := by rw [hy1]; exact hI.2.1 53 1 (0, 15) rfl
  obtain ⟨y2, hy2⟩ : ∃ z : Int32, z = pj_fi G0 53 2 := ⟨_, rfl⟩
  have ey2 : (pj_fi G0 53 2).toInt = y2.toInt := by rw [hy2]
  have ry2 : (0 : Int) ≤ y2.toInt ∧ y2.toInt ≤ 15 := by rw [hy2]; exact hI.2.1 53 2 (0, 15) rfl
  refine pj_X_of (fun r h => pj_R_to (G0, 1, [(0, .ref 53), (1, .int dn)], [.int dn], 0, 0) 1 2 (fun _ => rfl) h) ?_
  cases b3 : pj_c1 .eq dn 0 with
  | true =>
    rw [pj_cT]
    have ub3 := pj_u0_eqT b3
    refine pj_X_of (fun r h => pj_R_ifT 35 rfl rfl b3 h) ?_
    have q4 : (pj_fi G0 53 1).toInt = y1.toInt := by rw [show pj_fi G0 53 1 = y1 from hy1.symm]
    have q5 : (pj_fi G0 53 2).toInt = y2.toInt := by rw [show pj_fi G0 53 2 = y2 from hy2.symm]
    exact pj_X_rt rfl rfl ⟨rfl, hI, hK, (fun H hH => by subst hH; exact (by omega)), rfl⟩
  | false =>
    rw [pj_cF]
    have ub3 := pj_u0_eqF b3
    refine pj_X_of (fun r h => pj_R_ifF rfl b3 h) ?_
    refine pj_X_of (fun r h => pj_R_to (G0, 6, [(0, .ref 53), (1, .int dn)], [.ref 53, .ref 53], 0, 0) 6 3 (fun _ => rfl) h) ?_
    refine pj_X_of (fun r h => pj_T_gi hI rfl rfl h) ?_
    show pj_X _ _ G0 9 [(0, .ref 53), (1, .int dn)] [.int (pj_fi G0 53 1), .ref 53] _
    rw [← hy1, pj_nm_e]
    refine pj_X_of (fun r h => pj_R_to (G0, 11, [(0, .ref 53), (1, .int dn)], [.int (y1 + (Int32.ofInt 1)), .ref 53], 0, 0) 11 3 (fun _ => rfl) h) ?_
    obtain ⟨z6, hz6⟩ : ∃ z : Int32, z = y1 + (Int32.ofInt 1) := ⟨_, rfl⟩
    refine pj_X_eqi hz6.symm ?_
    rw [← hz6, pj_nm_e]
    have fz6_0 : z6.toInt = y1.toInt + (Int32.ofInt 1).toInt := by rw [hz6]; exact pj_addI (by have := pj_i32 y1; have := pj_i32 (Int32.ofInt 1); omega) (by have := pj_i32 y1; have := pj_i32 (Int32.ofInt 1); omega)
    refine pj_X_of (fun r h => pj_R_to (G0, 12, [(0, .ref 53), (1, .int dn)], [.ref 53, .int z6, .ref 53], 0, 0) 12 2 (fun _ => rfl) h) ?_
    refine pj_X_of (fun r h => pj_T_gr hI rfl rfl rfl h) ?_
    refine pj_X_of (fun r h => pj_T_al hI rfl rfl (by decide) h) ?_
    refine pj_X_of (fun r h => pj_R_rm rfl (pj_nz (by omega)) h) ?_
    show pj_X _ _ G0 17 [(0, .ref 53), (1, .int dn)] [.int (z6 - z6 / (Int32.ofNat 16) * (Int32.ofNat 16)), .ref 53] _
    obtain ⟨z7, hz7⟩ : ∃ z : Int32, z = z6 - z6 / (Int32.ofNat 16) * (Int32.ofNat 16) := ⟨_, rfl⟩
    refine pj_X_eqi hz7.symm ?_
    rw [← hz7, pj_nm_e]
    have fz7_0 : 0 ≤ z7.toInt ∧ z7.toInt < (Int32.ofNat 16).toInt := by rw [hz7]; exact pj_remI (by omega) (by omega)
    have fz7_1 : z7.toInt = z6.toInt % 16 := by rw [hz7]; exact (by have q := mr_rem (x := z6) (y := (Int32.ofNat 16)) (by omega) (by omega); rw [show ((Int32.ofNat 16)).toInt = 16 by decide] at q; exact q)
    refine pj_X_of (fun r h => pj_T_pf hI rfl rfl rfl h) ?_
    show pj_X _ _ (pj_wv G0 53 1 (.int z7)) 20 [(0, .ref 53), (1, .int dn)] [] _
    obtain ⟨G8, hG8⟩ : ∃ H, H = pj_wv G0 53 1 (.int z7) := ⟨_, rfl⟩
    have iG8 : pj_Inv G8 := by rw [hG8]; exact pj_Inv_wi hI (ci := 4) rfl (fun q hq => by cases hq; exact ⟨by show (0 : Int) ≤ _; omega, by show _ ≤ (15 : Int); omega⟩)
    have kG8 : pj_kpt kc_34nx G0 G8 := by rw [hG8]; exact pj_kpt_v hK rfl
    rw [← hG8]
    rw [pj_nm_e]
    refine pj_X_of (fun r h => pj_R_to (G8, 22, [(0, .ref 53), (1, .int dn)], [.ref 53, .ref 53], 0, 0) 22 3 (fun _ => rfl) h) ?_
    refine pj_X_of (fun r h => pj_T_gi iG8 rfl rfl h) ?_
    show pj_X _ _ G8 25 [(0, .ref 53), (1, .int dn)] [.int (pj_fi G8 53 2), .ref 53] _
    rw [← hy2, pj_nm_e]
    refine pj_X_eqi (show pj_fi G8 53 2 = y2 from by rw [hG8, pj_fi_wv_ne _ _ _ _ _ _ (by decide)]; exact hy2.symm) ?_
    refine pj_X_of (fun r h => pj_R_to (G8, 27, [(0, .ref 53), (1, .int dn)], [.int (y2 + (Int32.ofInt 1)), .ref 53], 0, 0) 27 3 (fun _ => rfl) h) ?_
    obtain ⟨z9, hz9⟩ : ∃ z : Int32, z = y2 + (Int32.ofInt 1) := ⟨_, rfl⟩
    refine pj_X_eqi hz9.symm ?_
    rw [← hz9, pj_nm_e]
    have fz9_0 : z9.toInt = y2.toInt + (Int32.ofInt 1).toInt := by rw [hz9]; exact pj_addI (by have := pj_i32 y2; have := pj_i32 (Int32.ofInt 1); omega) (by have := pj_i32 y2; have := pj_i32 (Int32.ofInt 1); omega)
    refine pj_X_of (fun r h => pj_R_to (G8, 29, [(0, .ref 53), (1, .int dn)], [.int ((Int8.ofInt 15).toInt32), .int z9, .ref 53], 0, 0) 29 2 (fun _ => rfl) h) ?_
    refine pj_X_of (fun r h => pj_R_mn (v := (if ((Int8.ofInt 15).toInt32) < z9 then ((Int8.ofInt 15).toInt32) else z9)) rfl rfl rfl (Nat.le_of_ble_eq_true rfl) h) ?_
    show pj_X _ _ G8 32 [(0, .ref 53), (1, .int dn)] [.int (if ((Int8.ofInt 15).toInt32) < z9 then ((Int8.ofInt 15).toInt32) else z9), .ref 53] _
    obtain ⟨z10, hz10⟩ : ∃ z : Int32, z = (if ((Int8.ofInt 15).toInt32) < z9 then ((Int8.ofInt 15).toInt32) else z9) := ⟨_, rfl⟩
    refine pj_X_eqi hz10.symm ?_
    rw [← hz10, pj_nm_e]
    have fz10_0 : z10.toInt ≤ z9.toInt ∧ z10.toInt ≤ ((Int8.ofInt 15).toInt32).toInt ∧ (z10.toInt = z9.toInt ∨ z10.toInt = ((Int8.ofInt 15).toInt32).toInt) := by rw [hz10]; exact pj_minI
    refine pj_X_of (fun r h => pj_T_pf iG8 rfl rfl rfl h) ?_
    show pj_X _ _ (pj_wv G8 53 2 (.int z10)) 35 [(0, .ref 53), (1, .int dn)] [] _
    obtain ⟨G11, hG11⟩ : ∃ H, H = pj_wv G8 53 2 (.int z10) := ⟨_, rfl⟩
    have iG11 : pj_Inv G11 := by rw [hG11]; exact pj_Inv_wi iG8 (ci := 4) rfl (fun q hq => by cases hq; exact ⟨by show (0 : Int) ≤ _; omega, by show _ ≤ (15 : Int); omega⟩)
    have kG11 : pj_kpt kc_34nx G0 G11 := by rw [hG11]; exact pj_kpt_v kG8 rfl
    rw [← hG11]
    rw [pj_nm_e]
    have q12 : (pj_fi G11 53 1).toInt = z7.toInt := by rw [show pj_fi G11 53 1 = z7 from by rw [hG11, pj_fi_wv_ne _ _ _ _ _ _ (by decide)]; exact (by rw [hG8]; exact pj_fi_wi hI.1 (ci := 4) rfl _)]
    have q13 : (pj_fi G11 53 2).toInt = z10.toInt := by rw [show pj_fi G11 53 2 = z10 from by rw [hG11]; exact pj_fi_wi iG8.1 (ci := 4) rfl _]
    exact pj_X_rt rfl rfl ⟨rfl, iG11, kG11, (fun H hH => by subst hH; exact (by omega)), rfl⟩
theorem fr_34nx (G0 : pj_G) (hI : pj_Inv G0) (dn : Int32) (rdn : (0 : Int) ≤ dn.toInt ∧ dn.toInt ≤ 1) : pj_Inv (F_34nx G0 dn) ∧ pj_kpt kc_34nx G0 (F_34nx G0 dn) ∧ ((dn.toInt = 0 → (pj_fi (F_34nx G0 dn) 53 1).toInt = (pj_fi G0 53 1).toInt ∧ (pj_fi (F_34nx G0 dn) 53 2).toInt = (pj_fi G0 53 2).toInt) ∧ (1 ≤ dn.toInt → (pj_fi (F_34nx G0 dn) 53 1).toInt = ((pj_fi G0 53 1).toInt + 1) % 16 ∧ (pj_fi (F_34nx G0 dn) 53 2).toInt ≤ (pj_fi G0 53 2).toInt + 1 ∧ (pj_fi (F_34nx G0 dn) 53 2).toInt ≤ 15)) := by
  obtain ⟨v, G', -, -, i, j, x, e⟩ := ct_34nx G0 hI dn rdn
  rw [← e]
  exact ⟨i, j, x _ rfl⟩
def kc_35nx : pj_KT := ([(53, 1), (53, 2)], [53], [])
noncomputable def F_35nx (G0 : pj_G) : Nat × pj_G := pj_nm (pj_fi G0 53 1) (fun y1 => pj_nm (y1 + ((Int8.ofInt 15).toInt32)) (fun z3 => pj_nm (z3 - z3 / (Int32.ofNat 16) * (Int32.ofNat 16)) (fun z4 => pj_nm (pj_wv G0 53 1 (.int z4)) (fun G5 => pj_nm (pj_fi G0 53 2) (fun y2 => pj_nm (y2 - (Int32.ofInt 1)) (fun z6 => pj_nm (pj_wv G5 53 2 (.int z6)) (fun G7 => if z4.toInt = 0 then ((0, G7)) else (if z4.toInt = 1 then ((1, G7)) else (if z4.toInt = 2 then ((2, G7)) else (if z4.toInt = 3 then ((3, G7)) else (if z4.toInt = 4 then ((4, G7)) else (if z4.toInt = 5 then ((5, G7)) else (if z4.toInt = 6 then ((6, G7)) else (if z4.toInt = 7 then ((7, G7)) else (if z4.toInt = 8 then ((8, G7)) else (if z4.toInt = 9 then ((9, G7)) else (if z4.toInt = 10 then ((10, G7)) else (if z4.toInt = 11 then ((11, G7)) else (if z4.toInt = 12 then ((12, G7)) else (if z4.toInt = 13 then ((13, G7)) else (if z4.toInt = 14 then ((14, G7)) else ((15, G7)))))))))))))))))))))))
theorem F_35nx_e (G0 : pj_G) : F_35nx G0 = pj_nm (pj_fi G0 53 1) (fun y1 => pj_nm (y1 + ((Int8.ofInt 15).toInt32)) (fun z3 => pj_nm (z3 - z3 / (Int32.ofNat 16) * (Int32.ofNat 16)) (fun z4 => pj_nm (pj_wv G0 53 1 (.int z4)) (fun G5 => pj_nm (pj_fi G0 53 2) (fun y2 => pj_nm (y2 - (Int32.ofInt 1)) (fun z6 => pj_nm (pj_wv G5 53 2 (.int z6)) (fun G7 => if z4.toInt = 0 then ((0, G7)) else (if z4.toInt = 1 then ((1, G7)) else (if z4.toInt = 2 then ((2, G7)) else (if z4.toInt = 3 then ((3, G7)) else (if z4.toInt = 4 then ((4, G7)) else (if z4.toInt = 5 then ((5, G7)) else (if z4.toInt = 6 then ((6, G7)) else (if z4.toInt = 7 then ((7, G7)) else (if z4.toInt = 8 then ((8, G7)) else (if z4.toInt = 9 then ((9, G7)) else (if z4.toInt = 10 then ((10, G7)) else (if z4.toInt = 11 then ((11, G7)) else (if z4.toInt = 12 then ((12, G7)) else (if z4.toInt = 13 then ((13, G7)) else (if z4.toInt = 14 then ((14, G7)) else ((15, G7))))))))))))))))))))))) := rfl
theorem ct_35nx (G0 : pj_G) (hI : pj_Inv G0) (p0_ : 1 ≤ (pj_fi G0 53 2).toInt) : pj_Y 1 35 [.ref 53] G0 (fun v' G' => ∃ k : Nat, k < 16 ∧ v' = some (.ref (57 + 6 * k)) ∧ pj_Inv G' ∧ pj_kpt kc_35nx G0 G' ∧ (∀ H, G0 = H → ((pj_fi G' 53 1).toInt = (k : Int) ∧ (k : Int) = ((pj_fi H 53 1).toInt + 15) % 16 ∧ (pj_fi G' 53 2).toInt = (pj_fi H 53 2).toInt - 1)) ∧ ((k, G') = F_35nx G0)) := by
  have c0_ : ((Int8.ofInt 15).toInt32).toInt = 15 := by decide
  have c1_ : (Int32.ofInt 1).toInt = 1 := by decide
  have c2_ : (Int32.ofNat 16).toInt = 16 := by decide
  refine pj_Y_X (M := pj_m35) rfl rfl (Nat.le_of_ble_eq_true rfl) ?_
  have hK : pj_kpt kc_35nx G0 G0 := pj_kpt_r _ _
  show pj_X _ _ G0 0 [(0, .ref 53)] [] _
  rw [F_35nx_e]
  obtain ⟨y1, hy1⟩ : ∃ z : Int32, z = pj_fi G0 53 1 := ⟨_, rfl⟩
  have ey1 : (pj_fi G0 53 1).toInt = y1.toInt := by rw [hy1]
  have ry1 : (0 : Int) ≤ y1.toInt ∧ y1.toInt ≤ 15 := by rw [hy1]; exact hI.2.1 53 1 (0, 15) rfl
  obtain ⟨y2, hy2⟩ : ∃ z : Int32, z = pj_fi G0 53 2 := ⟨_, rfl⟩
  have ey2 : (pj_fi G0 53 2).toInt = y2.toInt := by rw [hy2]
  have ry2 : (0 : Int) ≤ y2.toInt ∧ y2.toInt ≤ 15 := by rw [hy2]; exact hI.2.1 53 2 (0, 15) rfl
  refine pj_X_of (fun r h => pj_R_to (G0, 2, [(0, .ref 53)], [.ref 53, .ref 53], 0, 0) 2 3 (fun _ => rfl) h) ?_
  refine pj_X_of (fun r h => pj_T_gi hI rfl rfl h) ?_
  show pj_X _ _ G0 5 [(0, .ref 53)] [.int (pj_fi G0 53 1), .ref 53] _
  rw [← hy1, pj_nm_e]
  refine pj_X_of (fun r h => pj_R_to (G0, 8, [(0, .ref 53)], [.int (y1 + ((Int8.ofInt 15).toInt32)), .ref 53], 0, 0) 8 3 (fun _ => rfl) h) ?_
  obtain ⟨z3, hz3⟩ : ∃ z : Int32, z = y1 + ((Int8.ofInt 15).toInt32) := ⟨_, rfl⟩
  refine pj_X_eqi hz3.symm ?_
  rw [← hz3, pj_nm_e]
  have fz3_0 : z3.toInt = y1.toInt + ((Int8.ofInt 15).toInt32).toInt := by rw [hz3]; exact pj_addI (by have := pj_i32 y1; have := pj_i32 ((Int8.ofInt 15).toInt32); omega) (by have := pj_i32 y1; have := pj_i32 ((Int8.ofInt 15).toInt32); omega)
  refine pj_X_of (fun r h => pj_R_to (G0, 9, [(0, .ref 53)], [.ref 53, .int z3, .ref 53], 0, 0) 9 2 (fun _ => rfl) h) ?_
  refine pj_X_of (fun r h => pj_T_gr hI rfl rfl rfl h) ?_
  refine pj_X_of (fun r h => pj_T_al hI rfl rfl (by decide) h) ?_
  refine pj_X_of (fun r h => pj_R_rm rfl (pj_nz (by omega)) h) ?_
  show pj_X _ _ G0 14 [(0, .ref 53)] [.int (z3 - z3 / (Int32.ofNat 16) * (Int32.ofNat 16)), .ref 53] _
  obtain ⟨z4, hz4⟩ : ∃ z : Int32, z = z3 - z3 / (Int32.ofNat 16) * (Int32.ofNat 16) := ⟨_, rfl⟩
  refine pj_X_eqi hz4.symm ?_
  rw [← hz4, pj_nm_e]
  have fz4_0 : 0 ≤ z4.toInt ∧ z4.toInt < (Int32.ofNat 16).toInt := by rw [hz4]; exact pj_remI (by omega) (by omega)
  have fz4_1 : z4.toInt = z3.toInt % 16 := by rw [hz4]; exact (by have q := mr_rem (x := z3) (y := (Int32.ofNat 16)) (by omega) (by omega); rw [show ((Int32.ofNat 16)).toInt = 16 by decide] at q; exact q)
  refine pj_X_of (fun r h => pj_T_pf hI rfl rfl rfl h) ?_
  show pj_X _ _ (pj_wv G0 53 1 (.int z4)) 17 [(0, .ref 53)] [] _
  obtain ⟨G5, hG5⟩ : ∃ H, H = pj_wv G0 53 1 (.int z4) := ⟨_, rfl⟩
  have iG5 : pj_Inv G5 := by rw [hG5]; exact pj_Inv_wi hI (ci := 4) rfl (fun q hq => by cases hq; exact ⟨by show (0 : Int) ≤ _; omega, by show _ ≤ (15 : Int); omega⟩)
  have kG5 : pj_kpt kc_35nx G0 G5 := by rw [hG5]; exact pj_kpt_v hK rfl
  rw [← hG5]
  rw [pj_nm_e]
  refine pj_X_of (fun r h => pj_R_to (G5, 19, [(0, .ref 53)], [.ref 53, .ref 53], 0, 0) 19 3 (fun _ => rfl) h) ?_
  refine pj_X_of (fun r h => pj_T_gi iG5 rfl rfl h) ?_
  show pj_X _ _ G5 22 [(0, .ref 53)] [.int (pj_fi G5 53 2), .ref 53] _
  rw [← hy2, pj_nm_e]
  refine pj_X_eqi (show pj_fi G5 53 2 = y2 from by rw [hG5, pj_fi_wv_ne _ _ _ _ _ _ (by decide)]; exact hy2.symm) ?_
  refine pj_X_of (fun r h => pj_R_to (G5, 24, [(0, .ref 53)], [.int (y2 - (Int32.ofInt 1)), .ref 53], 0, 0) 24 3 (fun _ => rfl) h) ?_
  obtain ⟨z6, hz6⟩ : ∃ z : Int32, z = y2 - (Int32.ofInt 1) := ⟨_, rfl⟩
  refine pj_X_eqi hz6.symm ?_
  rw [← hz6, pj_nm_e]
  have fz6_0 : z6.toInt = y2.toInt - (Int32.ofInt 1).toInt := by rw [hz6]; exact pj_subI (by have := pj_i32 y2; have := pj_i32 (Int32.ofInt 1); omega) (by have := pj_i32 y2; have := pj_i32 (Int32.ofInt 1); omega)
  refine pj_X_of (fun r h => pj_T_pf iG5 rfl rfl rfl h) ?_
  show pj_X _ _ (pj_wv G5 53 2 (.int z6)) 27 [(0, .ref 53)] [] _
  obtain ⟨G7, hG7⟩ : ∃ H, H = pj_wv G5 53 2 (.int z6) := ⟨_, rfl⟩
  have iG7 : pj_Inv G7 := by rw [hG7]; exact pj_Inv_wi iG5 (ci := 4) rfl (fun q hq => by cases hq; exact ⟨by show (0 : Int) ≤ _; omega, by show _ ≤ (15 : Int); omega⟩)
  have kG7 : pj_kpt kc_35nx G0 G7 := by rw [hG7]; exact pj_kpt_v kG5 rfl
  rw [← hG7]
  rw [pj_nm_e]
  refine pj_X_of (fun r h => pj_R_to (G7, 28, [(0, .ref 53)], [.ref 53], 0, 0) 28 2 (fun _ => rfl) h) ?_
  refine pj_X_of (fun r h => pj_T_gr iG7 rfl rfl rfl h) ?_
  refine pj_X_of (fun r h => pj_R_to (G7, 32, [(0, .ref 53)], [.ref 53, .ref 54], 0, 0) 32 2 (fun _ => rfl) h) ?_
  refine pj_X_of (fun r h => pj_T_gi iG7 rfl rfl h) ?_
  show pj_X _ _ G7 35 [(0, .ref 53)] [.int (pj_fi G7 53 1), .ref 54] _
  refine pj_X_eqi (show pj_fi G7 53 1 = z4 from by rw [hG7, pj_fi_wv_ne _ _ _ _ _ _ (by decide)]; exact (by rw [hG5]; exact pj_fi_wi hI.1 (ci := 4) rfl _)) ?_
  by_cases t8 : z4.toInt = 0
  · refine pj_X_aa iG7 rfl rfl (k := 0) (by show _ = ((0 : Nat) : Int); omega) (by decide) rfl ?_
    rw [if_pos t8]
    have q9 : (pj_fi G7 53 1).toInt = z4.toInt := by rw [show pj_fi G7 53 1 = z4 from by rw [hG7, pj_fi_wv_ne _ _ _ _ _ _ (by decide)]; exact (by rw [hG5]; exact pj_fi_wi hI.1 (ci := 4) rfl _)]
    have q10 : (pj_fi G7 53 2).toInt = z6.toInt := by rw [show pj_fi G7 53 2 = z6 from by rw [hG7]; exact pj_fi_wi iG5.1 (ci := 4) rfl _]
    exact pj_X_rt rfl rfl ⟨0, by decide, rfl, iG7, kG7, (fun H hH => by subst hH; exact (by omega)), rfl⟩
  rw [if_neg t8]
  by_cases t11 : z4.toInt = 1
  · refine pj_X_aa iG7 rfl rfl (k := 1) (by show _ = ((1 : Nat) : Int); omega) (by decide) rfl ?_
    rw [if_pos t11]
    have q12 : (pj_fi G7 53 1).toInt = z4.toInt := by rw [show pj_fi G7 53 1 = z4 from by rw [hG7, pj_fi_wv_ne _ _ _ _ _ _ (by decide)]; exact (by rw [hG5]; exact pj_fi_wi hI.1 (ci := 4) rfl _)]
    have q13 : (pj_fi G7 53 2).toInt = z6.toInt := by rw [show pj_fi G7 53 2 = z6 from by rw [hG7]; exact pj_fi_wi iG5.1 (ci := 4) rfl _]
    exact pj_X_rt rfl rfl ⟨1, by decide, rfl, iG7, kG7, (fun H hH => by subst hH; exact (by omega)), rfl⟩
  rw [if_neg t11]
  by_cases t14 : z4.toInt = 2
  · refine pj_X_aa iG7 rfl rfl (k := 2) (by show _ = ((2 : Nat) : Int); omega) (by decide) rfl ?_
    rw [if_pos t14]
    have q15 : (pj_fi G7 53 1).toInt = z4.toInt := by rw [show pj_fi G7 53 1 = z4 from by rw [hG7, pj_fi_wv_ne _ _ _ _ _ _ (by decide)]; exact (by rw [hG5]; exact pj_fi_wi hI.1 (ci := 4) rfl _)]
    have q16 : (pj_fi G7 53 2).toInt = z6.toInt := by rw [show pj_fi G7 53 2 = z6 from by rw [hG7]; exact pj_fi_wi iG5.1 (ci := 4) rfl _]
    exact pj_X_rt rfl rfl ⟨2, by decide, rfl, iG7, kG7, (fun H hH => by subst hH; exact (by omega)), rfl⟩
  rw [if_neg t14]
  by_cases t17 : z4.toInt = 3
  · refine pj_X_aa iG7 rfl rfl (k := 3) (by show _ = ((3 : Nat) : Int); omega) (by decide) rfl ?_
    rw [if_pos t17]
    have q18 : (pj_fi G7 53 1).toInt = z4.toInt := by rw [show pj_fi G7 53 1 = z4 from by rw [hG7, pj_fi_wv_ne _ _ _ _ _ _ (by decide)]; exact (by rw [hG5]; exact pj_fi_wi hI.1 (ci := 4) rfl _)]
    have q19 : (pj_fi G7 53 2).toInt = z6.toInt := by rw [show pj_fi G7 53 2 = z6 from by rw [hG7]; exact pj_fi_wi iG5.1 (ci := 4) rfl _]
    exact pj_X_rt rfl rfl ⟨3, by decide, rfl, iG7, kG7, (fun H hH => by subst hH; exact (by omega)), rfl⟩
  rw [if_neg t17]
  by_cases t20 : z4.toInt = 4
  · refine pj_X_aa iG7 rfl rfl (k := 4) (by show _ = ((4 : Nat) : Int); omega) (by decide) rfl ?_
    rw [if_pos t20]
    have q21 : (pj_fi G7 53 1).toInt = z4.toInt := by rw [show pj_fi G7 53 1 = z4 from by rw [hG7, pj_fi_wv_ne _ _ _ _ _ _ (by decide)]; exact (by rw [hG5]; exact pj_fi_wi hI.1 (ci := 4) rfl _)]
    have q22 : (pj_fi G7 53 2).toInt = z6.toInt := by rw [show pj_fi G7 53 2 = z6 from by rw [hG7]; exact pj_fi_wi iG5.1 (ci := 4) rfl _]
    exact pj_X_rt rfl rfl ⟨4, by decide, rfl, iG7, kG7, (fun H hH => by subst hH; exact (by omega)), rfl⟩
  rw [if_neg t20]
  by_cases t23 : z4.toInt = 5
  · refine pj_X_aa iG7 rfl rfl (k := 5) (by show _ = ((5 : Nat) : Int); omega) (by decide) rfl ?_
    rw [if_pos t23]
    have q24 : (pj_fi G7 53 1).toInt = z4.toInt := by rw [show pj_fi G7 53 1 = z4 from by rw [hG7, pj_fi_wv_ne _ _ _ _ _ _ (by decide)]; exact (by rw [hG5]; exact pj_fi_wi hI.1 (ci := 4) rfl _)]
    have q25 : (pj_fi G7 53 2).toInt = z6.toInt := by rw [show pj_fi G7 53 2 = z6 from by rw [hG7]; exact pj_fi_wi iG5.1 (ci := 4) rfl _]
    exact pj_X_rt rfl rfl ⟨5, by decide, rfl, iG7, kG7, (fun H hH => by subst hH; exact (by omega)), rfl⟩
  rw [if_neg t23]
  by_cases t26 : z4.toInt = 6
  · refine pj_X_aa iG7 rfl rfl (k := 6) (by show _ = ((6 : Nat) : Int); omega) (by decide) rfl ?_
    rw [if_pos t26]
    have q27 : (pj_fi G7 53 1).toInt = z4.toInt := by rw [show pj_fi G7 53 1 = z4 from by rw [hG7, pj_fi_wv_ne _ _ _ _ _ _ (by decide)]; exact (by rw [hG5]; exact pj_fi_wi hI.1 (ci := 4) rfl _)]
    have q28 : (pj_fi G7 53 2).toInt = z6.toInt := by rw [show pj_fi G7 53 2 = z6 from by rw [hG7]; exact pj_fi_wi iG5.1 (ci := 4) rfl _]
    exact pj_X_rt rfl rfl ⟨6, by decide, rfl, iG7, kG7, (fun H hH => by subst hH; exact (by omega)), rfl⟩
  rw [if_neg t26]
  by_cases t29 : z4.toInt = 7
  · refine pj_X_aa iG7 rfl rfl (k := 7) (by show _ = ((7 : Nat) : Int); omega) (by decide) rfl ?_
    rw [if_pos t29]
    have q30 : (pj_fi G7 53 1).toInt = z4.toInt := by rw [show pj_fi G7 53 1 = z4 from by rw [hG7, pj_fi_wv_ne _ _ _ _ _ _ (by decide)]; exact (by rw [hG5]; exact pj_fi_wi hI.1 (ci := 4) rfl _)]
    have q31 : (pj_fi G7 53 2).toInt = z6.toInt := by rw [show pj_fi G7 53 2 = z6 from by rw [hG7]; exact pj_fi_wi iG5.1 (ci := 4) rfl _]
    exact pj_X_rt rfl rfl ⟨7, by decide, rfl, iG7, kG7, (fun H hH => by subst hH; exact (by omega)), rfl⟩
  rw [if_neg t29]
  by_cases t32 : z4.toInt = 8
  · refine pj_X_aa iG7 rfl rfl (k := 8) (by show _ = ((8 : Nat) : Int); omega) (by decide) rfl ?_
    rw [if_pos t32]
    have q33 : (pj_fi G7 53 1).toInt = z4.toInt := by rw [show pj_fi G7 53 1 = z4 from by rw [hG7, pj_fi_wv_ne _ _ _ _ _ _ (by decide)]; exact (by rw [hG5]; exact pj_fi_wi hI.1 (ci := 4) rfl _)]
    have q34 : (pj_fi G7 53 2).toInt = z6.toInt := by rw [show pj_fi G7 53 2 = z6 from by rw [hG7]; exact pj_fi_wi iG5.1 (ci := 4) rfl _]
    exact pj_X_rt rfl rfl ⟨8, by decide, rfl, iG7, kG7, (fun H hH => by subst hH; exact (by omega)), rfl⟩
  rw [if_neg t32]
  by_cases t35 : z4.toInt = 9
  · refine pj_X_aa iG7 rfl rfl (k := 9) (by show _ = ((9 : Nat) : Int); omega) (by decide) rfl ?_
    rw [if_pos t35]
    have q36 : (pj_fi G7 53 1).toInt = z4.toInt := by rw [show pj_fi G7 53 1 = z4 from by rw [hG7, pj_fi_wv_ne _ _ _ _ _ _ (by decide)]; exact (by rw [hG5]; exact pj_fi_wi hI.1 (ci := 4) rfl _)]
    have q37 : (pj_fi G7 53 2).toInt = z6.toInt := by rw [show pj_fi G7 53 2 = z6 from by rw [hG7]; exact pj_fi_wi iG5.1 (ci := 4) rfl _]
    exact pj_X_rt rfl rfl ⟨9, by decide, rfl, iG7, kG7, (fun H hH => by subst hH; exact (by omega)), rfl⟩
  rw [if_neg t35]
  by_cases t38 : z4.toInt = 10
  · refine pj_X_aa iG7 rfl rfl (k := 10) (by show _ = ((10 : Nat) : Int); omega) (by decide) rfl ?_
    rw [if_pos t38]
    have q39 : (pj_fi G7 53 1).toInt = z4.toInt := by rw [show pj_fi G7 53 1 = z4 from by rw [hG7, pj_fi_wv_ne _ _ _ _ _ _ (by decide)]; exact (by rw [hG5]; exact pj_fi_wi hI.1 (ci := 4) rfl _)]
    have q40 : (pj_fi G7 53 2).toInt = z6.toInt := by rw [show pj_fi G7 53 2 = z6 from by rw [hG7]; exact pj_fi_wi iG5.1 (ci := 4) rfl _]
    exact pj_X_rt rfl rfl ⟨10, by decide, rfl, iG7, kG7, (fun H hH => by subst hH; exact (by omega)), rfl⟩
  rw [if_neg t38]
  by_cases t41 : z4.toInt = 11
  · refine pj_X_aa iG7 rfl rfl (k := 11) (by show _ = ((11 : Nat) : Int); omega) (by decide) rfl ?_
    rw [if_pos t41]
    have q42 : (pj_fi G7 53 1).toInt = z4.toInt := by rw [show pj_fi G7 53 1 = z4 from by rw [hG7, pj_fi_wv_ne _ _ _ _ _ _ (by decide)]; exact (by rw [hG5]; exact pj_fi_wi hI.1 (ci := 4) rfl _)]
    have q43 : (pj_fi G7 53 2).toInt = z6.toInt := by rw [show pj_fi G7 53 2 = z6 from by rw [hG7]; exact pj_fi_wi iG5.1 (ci := 4) rfl _]
    exact pj_X_rt rfl rfl ⟨11, by decide, rfl, iG7, kG7, (fun H hH => by subst hH; exact (by omega)), rfl⟩
  rw [if_neg t41]
  by_cases t44 : z4.toInt = 12
  · refine pj_X_aa iG7 rfl rfl (k := 12) (by show _ = ((12 : Nat) : Int); omega) (by decide) rfl ?_
    rw [if_pos t44]
    have q45 : (pj_fi G7 53 1).toInt = z4.toInt := by rw [show pj_fi G7 53 1 = z4 from by rw [hG7, pj_fi_wv_ne _ _ _ _ _ _ (by decide)]; exact (by rw [hG5]; exact pj_fi_wi hI.1 (ci := 4) rfl _)]
    have q46 : (pj_fi G7 53 2).toInt = z6.toInt := by rw [show pj_fi G7 53 2 = z6 from by rw [hG7]; exact pj_fi_wi iG5.1 (ci := 4) rfl _]
    exact pj_X_rt rfl rfl ⟨12, by decide, rfl, iG7, kG7, (fun H hH => by subst hH; exact (by omega)), rfl⟩
  rw [if_neg t44]
  by_cases t47 : z4.toInt = 13
  · refine pj_X_aa iG7 rfl rfl (k := 13) (by show _ = ((13 : Nat) : Int); omega) (by decide) rfl ?_
    rw [if_pos t47]
    have q48 : (pj_fi G7 53 1).toInt = z4.toInt := by rw [show pj_fi G7 53 1 = z4 from by rw [hG7, pj_fi_wv_ne _ _ _ _ _ _ (by decide)]; exact (by rw [hG5]; exact pj_fi_wi hI.1 (ci := 4) rfl _)]
    have q49 : (pj_fi G7 53 2).toInt = z6.toInt := by rw [show pj_fi G7 53 2 = z6 from by rw [hG7]; exact pj_fi_wi iG5.1 (ci := 4) rfl _]
    exact pj_X_rt rfl rfl ⟨13, by decide, rfl, iG7, kG7, (fun H hH => by subst hH; exact (by omega)), rfl⟩
  rw [if_neg t47]
  by_cases t50 : z4.toInt = 14
  · refine pj_X_aa iG7 rfl rfl (k := 14) (by show _ = ((14 : Nat) : Int); omega) (by decide) rfl ?_
    rw [if_pos t50]
    have q51 : (pj_fi G7 53 1).toInt = z4.toInt := by rw [show pj_fi G7 53 1 = z4 from by rw [hG7, pj_fi_wv_ne _ _ _ _ _ _ (by decide)]; exact (by rw [hG5]; exact pj_fi_wi hI.1 (ci := 4) rfl _)]
    have q52 : (pj_fi G7 53 2).toInt = z6.toInt := by rw [show pj_fi G7 53 2 = z6 from by rw [hG7]; exact pj_fi_wi iG5.1 (ci := 4) rfl _]
    exact pj_X_rt rfl rfl ⟨14, by decide, rfl, iG7, kG7, (fun H hH => by subst hH; exact (by omega)), rfl⟩
  rw [if_neg t50]
  · refine pj_X_aa iG7 rfl rfl (k := 15) (by show _ = ((15 : Nat) : Int); omega) (by decide) rfl ?_
    have q53 : (pj_fi G7 53 1).toInt = z4.toInt := by rw [show pj_fi G7 53 1 = z4 from by rw [hG7, pj_fi_wv_ne _ _ _ _ _ _ (by decide)]; exact (by rw [hG5]; exact pj_fi_wi hI.1 (ci := 4) rfl _)]
    have q54 : (pj_fi G7 53 2).toInt = z6.toInt := by rw [show pj_fi G7 53 2 = z6 from by rw [hG7]; exact pj_fi_wi iG5.1 (ci := 4) rfl _]
    exact pj_X_rt rfl rfl ⟨15, by decide, rfl, iG7, kG7, (fun H hH => by subst hH; exact (by omega)), rfl⟩
theorem fr_35nx (G0 : pj_G) (hI : pj_Inv G0) (p0_ : 1 ≤ (pj_fi G0 53 2).toInt) : pj_Inv (F_35nx G0).2 ∧ pj_kpt kc_35nx G0 (F_35nx G0).2 ∧ (F_35nx G0).1 < 16 ∧ ((pj_fi (F_35nx G0).2 53 1).toInt = ((F_35nx G0).1 : Int) ∧ ((F_35nx G0).1 : Int) = ((pj_fi G0 53 1).toInt + 15) % 16 ∧ (pj_fi (F_35nx G0).2 53 2).toInt = (pj_fi G0 53 2).toInt - 1) := by
  obtain ⟨v, G', -, k, hk, -, i, j, x, e⟩ := ct_35nx G0 hI p0_
  rw [← e]
  exact ⟨i, j, hk, x _ rfl⟩
def kc_128nx : pj_KT := ([(53, 1), (53, 2), (57, 0), (57, 5), (57, 7), (57, 8), (63, 0), (63, 5), (63, 7), (63, 8), (69, 0), (69, 5), (69, 7), (69, 8), (75, 0), (75, 5), (75, 7), (75, 8), (81, 0), (81, 5), (81, 7), (81, 8), (87, 0), (87, 5), (87, 7), (87, 8), (93, 0), (93, 5), (93, 7), (93, 8), (99, 0), (99, 5), (99, 7), (99, 8), (105, 0), (105, 5), (105, 7), (105, 8), (111, 0), (111, 5), (111, 7), (111, 8), (117, 0), (117, 5), (117, 7), (117, 8), (123, 0), (123, 5), (123, 7), (123, 8), (129, 0), (129, 5), (129, 7), (129, 8), (135, 0), (135, 5), (135, 7), (135, 8), (141, 0), (141, 5), (141, 7), (141, 8), (147, 0), (147, 5), (147, 7), (147, 8)], [22, 23, 30, 33, 53, 57, 58, 59, 60, 61, 62, 63, 64, 65, 66, 67, 68, 69, 70, 71, 72, 73, 74, 75, 76, 77, 78, 79, 80, 81, 82, 83, 84, 85, 86, 87, 88, 89, 90, 91, 92, 93, 94, 95, 96, 97, 98, 99, 100, 101, 102, 103, 104, 105, 106, 107, 108, 109, 110, 111, 112, 113, 114, 115, 116, 117, 118, 119, 120, 121, 122, 123, 124, 125, 126, 127, 128, 129, 130, 131, 132, 133, 134, 135, 136, 137, 138, 139, 140, 141, 142, 143, 144, 145, 146, 147, 148, 149, 150, 151, 152], [22, 23, 30, 33, 58, 59, 60, 61, 62, 64, 65, 66, 67, 68, 70, 71, 72, 73, 74, 76, 77, 78, 79, 80, 82, 83, 84, 85, 86, 88, 89, 90, 91, 92, 94, 95, 96, 97, 98, 100, 101, 102, 103, 104, 106, 107, 108, 109, 110, 112, 113, 114, 115, 116, 118, 119, 120, 121, 122, 124, 125, 126, 127, 128, 130, 131, 132, 133, 134, 136, 137, 138, 139, 140, 142, 143, 144, 145, 146, 148, 149, 150, 151, 152])
noncomputable def F_128nx (G0 : pj_G) (b : Int32) (c : Int32) : Int32 × pj_G := pj_nm (F_33nx G0) (fun G2 => pj_bd (F_102x G2 b c) (fun y3 G4 => cond (pj_c1 .lt y3 0) (pj_nm (F_34nx G4 (Int32.ofInt 0)) (fun G7 => (y3, G7))) (pj_nm (F_34nx G4 (Int32.ofInt 1)) (fun G9 => (y3, G9)))))
theorem F_128nx_e (G0 : pj_G) (b : Int32) (c : Int32) : F_128nx G0 b c = pj_nm (F_33nx G0) (fun G2 => pj_bd (F_102x G2 b c) (fun y3 G4 => cond (pj_c1 .lt y3 0) (pj_nm (F_34nx G4 (Int32.ofInt 0)) (fun G7 => (y3, G7))) (pj_nm (F_34nx G4 (Int32.ofInt 1)) (fun G9 => (y3, G9))))) := rfl
theorem ct_128nx (G0 : pj_G) (hI : pj_Inv G0) (b : Int32) (c : Int32) : pj_Y 6 128 [.ref 1, .int b, .int c] G0 (fun v' G' => ∃ y : Int32, v' = some (.int y) ∧ pj_Inv G' ∧ pj_kpt kc_128nx G0 G' ∧ ((-2147483648 : Int) ≤ y.toInt ∧ y.toInt ≤ 2147483647) ∧ (∀ H, G0 = H → (mr_PC H G')) ∧ ((y, G') = F_128nx G0 b c)) := by
  have c0_ : (Int32.ofInt 0).toInt = 0 := by decide
  have c1_ : (Int32.ofInt 1).toInt = 1 := by decide
  refine pj_Y_X (M := pj_m128) rfl rfl (Nat.le_of_ble_eq_true rfl) ?_
  have hK : pj_kpt kc_128nx G0 G0 := pj_kpt_r _ _
  show pj_X _ _ G0 0 [(0, .ref 1), (1, .int b), (2, .int c)] [] _
  rw [F_128nx_e]
  refine pj_X_of (fun r h => pj_R_to (G0, 1, [(0, .ref 1), (1, .int b), (2, .int c)], [.ref 1], 0, 0) 1 2 (fun _ => rfl) h) ?_
  refine pj_X_of (fun r h => pj_T_gr hI rfl rfl rfl h) ?_
  refine pj_X_of (fun r h => pj_R_to (G0, 5, [(0, .ref 1), (1, .int b), (2, .int c)], [.ref 1, .ref 53], 0, 0) 5 2 (fun _ => rfl) h) ?_
  refine pj_X_of (fun r h => pj_T_gr hI rfl rfl rfl h) ?_
  refine pj_X_of (fun r h => pj_T_gr hI rfl rfl rfl h) ?_
  refine pj_X_ca (vs := [.ref 53, .ref 21]) rfl (fun _ => rfl) ⟨Nat.le_of_ble_eq_true rfl, Nat.le_of_ble_eq_true rfl, pj_T_rcv hI rfl⟩ ⟨rfl, rfl⟩ (pj_Y_up (by decide) (ct_33nx G0 hI)) ?_
  rintro _ G2 ⟨rfl, iG2, jG2, eG2, fy1⟩
  replace eG2 := eG2 _ rfl
  rw [← fy1, pj_nm_e]
  have kG2 : pj_kpt kc_128nx G0 G2 := pj_kpt_t hK (pj_kpt_s jG2 rfl)
  show pj_X _ _ G2 14 [(0, .ref 1), (1, .int b), (2, .int c)] [] _
  refine pj_X_of (fun r h => pj_R_to (G2, 15, [(0, .ref 1), (1, .int b), (2, .int c)], [.ref 1], 0, 0) 15 2 (fun _ => rfl) h) ?_
  refine pj_X_of (fun r h => pj_T_gr iG2 rfl rfl rfl h) ?_
  refine pj_X_of (fun r h => pj_R_to (G2, 20, [(0, .ref 1), (1, .int b), (2, .int c)], [.int c, .int b, .ref 6], 0, 0) 20 3 (fun _ => rfl) h) ?_
  refine pj_X_ca (vs := [.ref 6, .int b, .int c]) rfl (fun _ => rfl) ⟨Nat.le_of_ble_eq_true rfl, Nat.le_of_ble_eq_true rfl, pj_T_rcv iG2 rfl⟩ ⟨rfl, rfl⟩ (pj_Y_up (by decide) (ct_102x G2 iG2 b c)) ?_
  rintro _ G4 ⟨y3, rfl, iG4, jG4, ry3, fy3⟩
  rw [← fy3, pj_bd_e]
  have kG4 : pj_kpt kc_128nx G0 G4 := pj_kpt_t kG2 (pj_kpt_s jG4 rfl)
  show pj_X _ _ G4 23 [(0, .ref 1), (1, .int b), (2, .int c)] [.int y3] _
  refine pj_X_of (fun r h => pj_R_to (G4, 25, [(3, .int y3), (0, .ref 1), (1, .int b), (2, .int c)], [.ref 1], 0, 0) 25 3 (fun _ => rfl) h) ?_
  refine pj_X_of (fun r h => pj_T_gr iG4 rfl rfl rfl h) ?_
  refine pj_X_of (fun r h => pj_R_to (G4, 29, [(3, .int y3), (0, .ref 1), (1, .int b), (2, .int c)], [.int y3, .ref 53], 0, 0) 29 2 (fun _ => rfl) h) ?_
  cases b5 : pj_c1 .lt y3 0 with
  | true =>
    rw [pj_cT]
    have ub5 := pj_u0_ltT b5
    refine pj_X_of (fun r h => pj_R_ifT 36 rfl rfl b5 h) ?_
    refine pj_X_of (fun r h => pj_R_to (G4, 37, [(3, .int y3), (0, .ref 1), (1, .int b), (2, .int c)], [.int (Int32.ofInt 0), .ref 53], 0, 0) 37 2 (fun _ => rfl) h) ?_
    refine pj_X_ca (vs := [.ref 53, .int (Int32.ofInt 0)]) rfl (fun _ => rfl) ⟨Nat.le_of_ble_eq_true rfl, Nat.le_of_ble_eq_true rfl, pj_T_rcv iG4 rfl⟩ ⟨rfl, rfl⟩ (pj_Y_up (by decide) (ct_34nx G4 iG4 (Int32.ofInt 0) ⟨by omega, by omega⟩)) ?_
    rintro _ G7 ⟨rfl, iG7, jG7, eG7, fy6⟩
    replace eG7 := eG7 _ rfl
    rw [← fy6, pj_nm_e]
    have kG7 : pj_kpt kc_128nx G0 G7 := pj_kpt_t kG4 (pj_kpt_s jG7 rfl)
    show pj_X _ _ G7 40 [(3, .int y3), (0, .ref 1), (1, .int b), (2, .int c)] [] _
    refine pj_X_of (fun r h => pj_R_to (G7, 41, [(3, .int y3), (0, .ref 1), (1, .int b), (2, .int c)], [.int y3], 0, 0) 41 2 (fun _ => rfl) h) ?_
    exact pj_X_rt rfl rfl ⟨_, rfl, iG7, kG7, pj_i32 _, (fun H hH => by subst hH; exact (mr_deed hI eG2 jG2 rfl jG4 rfl jG7 rfl (by omega))), rfl⟩
  | false =>
    rw [pj_cF]
    have ub5 := pj_u0_ltF b5
    refine pj_X_of (fun r h => pj_R_ifF rfl b5 h) ?_
    refine pj_X_of (fun r h => pj_R_to (G4, 37, [(3, .int y3), (0, .ref 1), (1, .int b), (2, .int c)], [.int (Int32.ofInt 1), .ref 53], 0, 0) 37 3 (fun _ => rfl) h) ?_
    refine pj_X_ca (vs := [.ref 53, .int (Int32.ofInt 1)]) rfl (fun _ => rfl) ⟨Nat.le_of_ble_eq_true rfl, Nat.le_of_ble_eq_true rfl, pj_T_rcv iG4 rfl⟩ ⟨rfl, rfl⟩ (pj_Y_up (by decide) (ct_34nx G4 iG4 (Int32.ofInt 1) ⟨by omega, by omega⟩)) ?_
    rintro _ G9 ⟨rfl, iG9, jG9, eG9, fy8⟩
    replace eG9 := eG9 _ rfl
    rw [← fy8, pj_nm_e]
    have kG9 : pj_kpt kc_128nx G0 G9 := pj_kpt_t kG4 (pj_kpt_s jG9 rfl)
    show pj_X _ _ G9 40 [(3, .int y3), (0, .ref 1), (1, .int b), (2, .int c)] [] _
    refine pj_X_of (fun r h => pj_R_to (G9, 41, [(3, .int y3), (0, .ref 1), (1, .int b), (2, .int c)], [.int y3], 0, 0) 41 2 (fun _ => rfl) h) ?_
    exact pj_X_rt rfl rfl ⟨_, rfl, iG9, kG9, pj_i32 _, (fun H hH => by subst hH; exact (mr_deed hI eG2 jG2 rfl jG4 rfl jG9 rfl (by omega))), rfl⟩
theorem fr_128nx (G0 : pj_G) (hI : pj_Inv G0) (b : Int32) (c : Int32) : pj_Inv (F_128nx G0 b c).2 ∧ pj_kpt kc_128nx G0 (F_128nx G0 b c).2 ∧ (mr_PC G0 (F_128nx G0 b c).2) := by
  obtain ⟨v, G', -, y, -, i, j, r, x, e⟩ := ct_128nx G0 hI b c
  rw [← e]
  exact ⟨i, j, x _ rfl⟩
def kc_129nx : pj_KT := ([(53, 1), (53, 2), (57, 0), (57, 5), (57, 7), (57, 8), (63, 0), (63, 5), (63, 7), (63, 8), (69, 0), (69, 5), (69, 7), (69, 8), (75, 0), (75, 5), (75, 7), (75, 8), (81, 0), (81, 5), (81, 7), (81, 8), (87, 0), (87, 5), (87, 7), (87, 8), (93, 0), (93, 5), (93, 7), (93, 8), (99, 0), (99, 5), (99, 7), (99, 8), (105, 0), (105, 5), (105, 7), (105, 8), (111, 0), (111, 5), (111, 7), (111, 8), (117, 0), (117, 5), (117, 7), (117, 8), (123, 0), (123, 5), (123, 7), (123, 8), (129, 0), (129, 5), (129, 7), (129, 8), (135, 0), (135, 5), (135, 7), (135, 8), (141, 0), (141, 5), (141, 7), (141, 8), (147, 0), (147, 5), (147, 7), (147, 8)], [25, 53, 57, 58, 59, 60, 61, 62, 63, 64, 65, 66, 67, 68, 69, 70, 71, 72, 73, 74, 75, 76, 77, 78, 79, 80, 81, 82, 83, 84, 85, 86, 87, 88, 89, 90, 91, 92, 93, 94, 95, 96, 97, 98, 99, 100, 101, 102, 103, 104, 105, 106, 107, 108, 109, 110, 111, 112, 113, 114, 115, 116, 117, 118, 119, 120, 121, 122, 123, 124, 125, 126, 127, 128, 129, 130, 131, 132, 133, 134, 135, 136, 137, 138, 139, 140, 141, 142, 143, 144, 145, 146, 147, 148, 149, 150, 151, 152], [25, 58, 59, 60, 61, 62, 64, 65, 66, 67, 68, 70, 71, 72, 73, 74, 76, 77, 78, 79, 80, 82, 83, 84, 85, 86, 88, 89, 90, 91, 92, 94, 95, 96, 97, 98, 100, 101, 102, 103, 104, 106, 107, 108, 109, 110, 112, 113, 114, 115, 116, 118, 119, 120, 121, 122, 124, 125, 126, 127, 128, 130, 131, 132, 133, 134, 136, 137, 138, 139, 140, 142, 143, 144, 145, 146, 148, 149, 150, 151, 152])
noncomputable def F_129nx (G0 : pj_G) (b : Int32) (hr : Int32) : Int32 × pj_G := pj_nm (F_33nx G0) (fun G2 => pj_bd (F_103x G2 b hr) (fun y3 G4 => cond (pj_c1 .lt y3 (Int32.ofInt (-1))) (pj_nm (F_34nx G4 (Int32.ofInt 0)) (fun G7 => (y3, G7))) (pj_nm (F_34nx G4 (Int32.ofInt 1)) (fun G9 => (y3, G9)))))
theorem F_129nx_e (G0 : pj_G) (b : Int32) (hr : Int32) : F_129nx G0 b hr = pj_nm (F_33nx G0) (fun G2 => pj_bd (F_103x G2 b hr) (fun y3 G4 => cond (pj_c1 .lt y3 (Int32.ofInt (-1))) (pj_nm (F_34nx G4 (Int32.ofInt 0)) (fun G7 => (y3, G7))) (pj_nm (F_34nx G4 (Int32.ofInt 1)) (fun G9 => (y3, G9))))) := rfl
theorem ct_129nx (G0 : pj_G) (hI : pj_Inv G0) (b : Int32) (hr : Int32) : pj_Y 5 129 [.ref 1, .int b, .int hr] G0 (fun v' G' => ∃ y : Int32, v' = some (.int y) ∧ pj_Inv G' ∧ pj_kpt kc_129nx G0 G' ∧ ((-2147483648 : Int) ≤ y.toInt ∧ y.toInt ≤ 2147483647) ∧ (∀ H, G0 = H → (mr_PC H G')) ∧ ((y, G') = F_129nx G0 b hr)) := by
  have c0_ : (Int32.ofInt (-1)).toInt = -1 := by decide
  have c1_ : (Int32.ofInt 0).toInt = 0 := by decide
  have c2_ : (Int32.ofInt 1).toInt = 1 := by decide
  refine pj_Y_X (M := pj_m129) rfl rfl (Nat.le_of_ble_eq_true rfl) ?_
  have hK : pj_kpt kc_129nx G0 G0 := pj_kpt_r _ _
  show pj_X _ _ G0 0 [(0, .ref 1), (1, .int b), (2, .int hr)] [] _
  rw [F_129nx_e]
  refine pj_X_of (fun r h => pj_R_to (G0, 1, [(0, .ref 1), (1, .int b), (2, .int hr)], [.ref 1], 0, 0) 1 2 (fun _ => rfl) h) ?_
  refine pj_X_of (fun r h => pj_T_gr hI rfl rfl rfl h) ?_
  refine pj_X_of (fun r h => pj_R_to (G0, 5, [(0, .ref 1), (1, .int b), (2, .int hr)], [.ref 1, .ref 53], 0, 0) 5 2 (fun _ => rfl) h) ?_
  refine pj_X_of (fun r h => pj_T_gr hI rfl rfl rfl h) ?_
  refine pj_X_of (fun r h => pj_T_gr hI rfl rfl rfl h) ?_
  refine pj_X_ca (vs := [.ref 53, .ref 21]) rfl (fun _ => rfl) ⟨Nat.le_of_ble_eq_true rfl, Nat.le_of_ble_eq_true rfl, pj_T_rcv hI rfl⟩ ⟨rfl, rfl⟩ (pj_Y_up (by decide) (ct_33nx G0 hI)) ?_
  rintro _ G2 ⟨rfl, iG2, jG2, eG2, fy1⟩
  replace eG2 := eG2 _ rfl
  rw [← fy1, pj_nm_e]
  have kG2 : pj_kpt kc_129nx G0 G2 := pj_kpt_t hK (pj_kpt_s jG2 rfl)
  show pj_X _ _ G2 14 [(0, .ref 1), (1, .int b), (2, .int hr)] [] _
  refine pj_X_of (fun r h => pj_R_to (G2, 15, [(0, .ref 1), (1, .int b), (2, .int hr)], [.ref 1], 0, 0) 15 2 (fun _ => rfl) h) ?_
  refine pj_X_of (fun r h => pj_T_gr iG2 rfl rfl rfl h) ?_
  refine pj_X_of (fun r h => pj_R_to (G2, 20, [(0, .ref 1), (1, .int b), (2, .int hr)], [.int hr, .int b, .ref 6], 0, 0) 20 3 (fun _ => rfl) h) ?_
  refine pj_X_ca (vs := [.ref 6, .int b, .int hr]) rfl (fun _ => rfl) ⟨Nat.le_of_ble_eq_true rfl, Nat.le_of_ble_eq_true rfl, pj_T_rcv iG2 rfl⟩ ⟨rfl, rfl⟩ (pj_Y_up (by decide) (ct_103x G2 iG2 b hr)) ?_
  rintro _ G4 ⟨y3, rfl, iG4, jG4, ry3, fy3⟩
  rw [← fy3, pj_bd_e]
  have kG4 : pj_kpt kc_129nx G0 G4 := pj_kpt_t kG2 (pj_kpt_s jG4 rfl)
  show pj_X _ _ G4 23 [(0, .ref 1), (1, .int b), (2, .int hr)] [.int y3] _
  refine pj_X_of (fun r h => pj_R_to (G4, 25, [(3, .int y3), (0, .ref 1), (1, .int b), (2, .int hr)], [.ref 1], 0, 0) 25 3 (fun _ => rfl) h) ?_
  refine pj_X_of (fun r h => pj_T_gr iG4 rfl rfl rfl h) ?_
  refine pj_X_of (fun r h => pj_R_to (G4, 30, [(3, .int y3), (0, .ref 1), (1, .int b), (2, .int hr)], [.int (Int32.ofInt (-1)), .int y3, .ref 53], 0, 0) 30 3 (fun _ => rfl) h) ?_
  cases b5 : pj_c1 .lt y3 (Int32.ofInt (-1)) with
  | true =>
    rw [pj_cT]
    have ub5 := pj_u_ltT b5
    refine pj_X_of (fun r h => pj_R_icT 37 rfl rfl b5 h) ?_
    refine pj_X_of (fun r h => pj_R_to (G4, 38, [(3, .int y3), (0, .ref 1), (1, .int b), (2, .int hr)], [.int (Int32.ofInt 0), .ref 53], 0, 0) 38 2 (fun _ => rfl) h) ?_
    refine pj_X_ca (vs := [.ref 53, .int (Int32.ofInt 0)]) rfl (fun _ => rfl) ⟨Nat.le_of_ble_eq_true rfl, Nat.le_of_ble_eq_true rfl, pj_T_rcv iG4 rfl⟩ ⟨rfl, rfl⟩ (pj_Y_up (by decide) (ct_34nx G4 iG4 (Int32.ofInt 0) ⟨by omega, by omega⟩)) ?_
    rintro _ G7 ⟨rfl, iG7, jG7, eG7, fy6⟩
    replace eG7 := eG7 _ rfl
    rw [← fy6, pj_nm_e]
    have kG7 : pj_kpt kc_129nx G0 G7 := pj_kpt_t kG4 (pj_kpt_s jG7 rfl)
    show pj_X _ _ G7 41 [(3, .int y3), (0, .ref 1), (1, .int b), (2, .int hr)] [] _
    refine pj_X_of (fun r h => pj_R_to (G7, 42, [(3, .int y3), (0, .ref 1), (1, .int b), (2, .int hr)], [.int y3], 0, 0) 42 2 (fun _ => rfl) h) ?_
    exact pj_X_rt rfl rfl ⟨_, rfl, iG7, kG7, pj_i32 _, (fun H hH => by subst hH; exact (mr_deed hI eG2 jG2 rfl jG4 rfl jG7 rfl (by omega))), rfl⟩
  | false =>
    rw [pj_cF]
    have ub5 := pj_u_ltF b5
    refine pj_X_of (fun r h => pj_R_icF rfl b5 h) ?_
    refine pj_X_of (fun r h => pj_R_to (G4, 38, [(3, .int y3), (0, .ref 1), (1, .int b), (2, .int hr)], [.int (Int32.ofInt 1), .ref 53], 0, 0) 38 3 (fun _ => rfl) h) ?_
    refine pj_X_ca (vs := [.ref 53, .int (Int32.ofInt 1)]) rfl (fun _ => rfl) ⟨Nat.le_of_ble_eq_true rfl, Nat.le_of_ble_eq_true rfl, pj_T_rcv iG4 rfl⟩ ⟨rfl, rfl⟩ (pj_Y_up (by decide) (ct_34nx G4 iG4 (Int32.ofInt 1) ⟨by omega, by omega⟩)) ?_
    rintro _ G9 ⟨rfl, iG9, jG9, eG9, fy8⟩
    replace eG9 := eG9 _ rfl
    rw [← fy8, pj_nm_e]
    have kG9 : pj_kpt kc_129nx G0 G9 := pj_kpt_t kG4 (pj_kpt_s jG9 rfl)
    show pj_X _ _ G9 41 [(3, .int y3), (0, .ref 1), (1, .int b), (2, .int hr)] [] _
    refine pj_X_of (fun r h => pj_R_to (G9, 42, [(3, .int y3), (0, .ref 1), (1, .int b), (2, .int hr)], [.int y3], 0, 0) 42 2 (fun _ => rfl) h) ?_
    exact pj_X_rt rfl rfl ⟨_, rfl, iG9, kG9, pj_i32 _, (fun H hH => by subst hH; exact (mr_deed hI eG2 jG2 rfl jG4 rfl jG9 rfl (by omega))), rfl⟩
theorem fr_129nx (G0 : pj_G) (hI : pj_Inv G0) (b : Int32) (hr : Int32) : pj_Inv (F_129nx G0 b hr).2 ∧ pj_kpt kc_129nx G0 (F_129nx G0 b hr).2 ∧ (mr_PC G0 (F_129nx G0 b hr).2) := by
  obtain ⟨v, G', -, y, -, i, j, r, x, e⟩ := ct_129nx G0 hI b hr
  rw [← e]
  exact ⟨i, j, x _ rfl⟩
