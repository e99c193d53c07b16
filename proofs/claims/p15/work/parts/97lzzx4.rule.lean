def kc_122tx : pj_KT := ([(2, 1), (2, 2), (2, 3), (2, 4), (27, 0), (27, 1), (27, 2), (27, 3)], [2, 27, 28, 29], [28, 29])
noncomputable def F_122tx (G0 : pj_G) : Int32 × pj_G := pj_nm (F_79x G0 ((Int8.ofInt 40).toInt32)) (fun G4 => pj_nm (F_58x G4) (fun G9 => pj_bd (F_88tx G9) (fun y13 G14 => cond (pj_c1 .eq y13 (Int32.ofInt (-1))) (pj_nm (F_59x G14) (fun G19 => (Int32.ofInt 0, G19))) (pj_nm (F_162x G14 y13) (fun y24 => (y24, G14))))))
theorem F_122tx_e (G0 : pj_G) : F_122tx G0 = pj_nm (F_79x G0 ((Int8.ofInt 40).toInt32)) (fun G4 => pj_nm (F_58x G4) (fun G9 => pj_bd (F_88tx G9) (fun y13 G14 => cond (pj_c1 .eq y13 (Int32.ofInt (-1))) (pj_nm (F_59x G14) (fun G19 => (Int32.ofInt 0, G19))) (pj_nm (F_162x G14 y13) (fun y24 => (y24, G14)))))) := rfl
theorem ct_122tx (G0 : pj_G) (hI : pj_Inv G0) : pj_Y 61 122 [.ref 1] G0 (fun v' G' => ∃ y : Int32, v' = some (.int y) ∧ pj_Inv G' ∧ pj_kpt kc_122tx G0 G' ∧ ((-2147483648 : Int) ≤ y.toInt ∧ y.toInt ≤ 2147483647) ∧ ((pj_fi G' 2 1).toInt = 0) ∧ ((y, G') = F_122tx G0)) := by
  have c0_ : ((Int8.ofInt 40).toInt32).toInt = 40 := by decide
  have c1_ : (Int32.ofInt (-1)).toInt = -1 := by decide
  have c2_ : (Int32.ofInt 0).toInt = 0 := by decide
  refine pj_Y_X (M := pj_m122) rfl rfl (Nat.le_of_ble_eq_true rfl) ?_
  have hK : pj_kpt kc_122tx G0 G0 := pj_kpt_r _ _
  show pj_X _ _ G0 0 [(0, .ref 1)] [] _
  rw [F_122tx_e]
  obtain ⟨y1, hy1⟩ : ∃ z : Int32, z = pj_fi G0 2 1 := ⟨_, rfl⟩
  have ey1 : (pj_fi G0 2 1).toInt = y1.toInt := by rw [hy1]
  have ry1 : (0 : Int) ≤ y1.toInt ∧ y1.toInt ≤ 80 := by rw [hy1]; exact hI.2.1 2 1 (0, 80) rfl
  refine pj_X_of (fun r h => pj_R_to (G0, 1, [(0, .ref 1)], [.ref 1], 0, 0) 1 2 (fun _ => rfl) h) ?_
  refine pj_X_of (fun r h => pj_T_gr hI rfl rfl rfl h) ?_
  refine pj_X_of (fun r h => pj_R_to (G0, 6, [(0, .ref 1)], [.int ((Int8.ofInt 40).toInt32), .ref 2], 0, 0) 6 2 (fun _ => rfl) h) ?_
  have q2 : (pj_fi G0 2 1).toInt = y1.toInt := by rw [show pj_fi G0 2 1 = y1 from hy1.symm]
  refine pj_X_ca (vs := [.ref 2, .int ((Int8.ofInt 40).toInt32)]) rfl (fun _ => rfl) ⟨Nat.le_of_ble_eq_true rfl, Nat.le_of_ble_eq_true rfl, pj_T_rcv hI rfl⟩ ⟨rfl, rfl⟩ (pj_Y_up (by decide) (ct_79x G0 hI ((Int8.ofInt 40).toInt32) ⟨by omega, by omega⟩)) ?_
  rintro _ G4 ⟨rfl, iG4, jG4, eG4, fy3⟩
  replace eG4 := eG4 _ rfl
  rw [← fy3, pj_nm_e]
  have kG4 : pj_kpt kc_122tx G0 G4 := pj_kpt_t hK (pj_kpt_s jG4 rfl)
  have q5 : (pj_fi G4 2 1).toInt = (pj_fi G0 2 1).toInt := by rw [jG4.1 (2, 1) (by decide)]
  obtain ⟨y6, hy6⟩ : ∃ z : Int32, z = pj_fi G4 2 1 := ⟨_, rfl⟩
  have ey6 : (pj_fi G4 2 1).toInt = y6.toInt := by rw [hy6]
  have ry6 : (0 : Int) ≤ y6.toInt ∧ y6.toInt ≤ 80 := by rw [hy6]; exact iG4.2.1 2 1 (0, 80) rfl
  show pj_X _ _ G4 9 [(0, .ref 1)] [] _
  refine pj_X_of (fun r h => pj_R_to (G4, 10, [(0, .ref 1)], [.ref 1], 0, 0) 10 2 (fun _ => rfl) h) ?_
  refine pj_X_of (fun r h => pj_T_gr iG4 rfl rfl rfl h) ?_
  refine pj_X_of (fun r h => pj_T_gr iG4 rfl rfl rfl h) ?_
  refine pj_X_of (fun r h => pj_R_to (G4, 17, [(0, .ref 1)], [.ref 1, .ref 27], 0, 0) 17 2 (fun _ => rfl) h) ?_
  refine pj_X_of (fun r h => pj_T_gr iG4 rfl rfl rfl h) ?_
  have q7 : (pj_fi G4 2 1).toInt = y6.toInt := by rw [show pj_fi G4 2 1 = y6 from hy6.symm]
  refine pj_X_ca (vs := [.ref 27, .ref 2]) rfl (fun _ => rfl) ⟨Nat.le_of_ble_eq_true rfl, Nat.le_of_ble_eq_true rfl, pj_T_rcv iG4 rfl⟩ ⟨rfl, rfl⟩ (pj_Y_up (by decide) (ct_58x G4 iG4)) ?_
  rintro _ G9 ⟨rfl, iG9, jG9, fy8⟩
  rw [← fy8, pj_nm_e]
  have kG9 : pj_kpt kc_122tx G0 G9 := pj_kpt_t kG4 (pj_kpt_s jG9 rfl)
  have q10 : (pj_fi G9 2 1).toInt = (pj_fi G4 2 1).toInt := by rw [jG9.1 (2, 1) (by decide)]
  obtain ⟨y11, hy11⟩ : ∃ z : Int32, z = pj_fi G9 2 1 := ⟨_, rfl⟩
  have ey11 : (pj_fi G9 2 1).toInt = y11.toInt := by rw [hy11]
  have ry11 : (0 : Int) ≤ y11.toInt ∧ y11.toInt ≤ 80 := by rw [hy11]; exact iG9.2.1 2 1 (0, 80) rfl
  show pj_X _ _ G9 23 [(0, .ref 1)] [] _
  refine pj_X_of (fun r h => pj_R_to (G9, 24, [(0, .ref 1)], [.ref 1], 0, 0) 24 2 (fun _ => rfl) h) ?_
  refine pj_X_of (fun r h => pj_T_gr iG9 rfl rfl rfl h) ?_
  have q12 : (pj_fi G9 2 1).toInt = y11.toInt := by rw [show pj_fi G9 2 1 = y11 from hy11.symm]
  refine pj_X_ca (vs := [.ref 2]) rfl (fun _ => rfl) ⟨Nat.le_of_ble_eq_true rfl, Nat.le_of_ble_eq_true rfl, pj_T_rcv iG9 rfl⟩ ⟨rfl, rfl⟩ (pj_Y_up (by decide) (ct_88tx G9 iG9)) ?_
  rintro _ G14 ⟨y13, rfl, iG14, jG14, ry13, ey13, fy13⟩
  replace ey13 := ey13 _ rfl
  rw [← fy13, pj_bd_e]
  have kG14 : pj_kpt kc_122tx G0 G14 := pj_kpt_t kG9 (pj_kpt_s jG14 rfl)
  obtain ⟨y15, hy15⟩ : ∃ z : Int32, z = pj_fi G14 2 1 := ⟨_, rfl⟩
  have ey15 : (pj_fi G14 2 1).toInt = y15.toInt := by rw [hy15]
  have ry15 : (0 : Int) ≤ y15.toInt ∧ y15.toInt ≤ 80 := by rw [hy15]; exact iG14.2.1 2 1 (0, 80) rfl
  show pj_X _ _ G14 30 [(0, .ref 1)] [.int y13] _
  refine pj_X_of (fun r h => pj_R_to (G14, 33, [(1, .int y13), (0, .ref 1)], [.int (Int32.ofInt (-1)), .int y13], 0, 0) 33 4 (fun _ => rfl) h) ?_
  cases b16 : pj_c1 .eq y13 (Int32.ofInt (-1)) with
  | true =>
    rw [pj_cT]
    have ub16 := pj_u_eqT b16
    refine pj_X_of (fun r h => pj_R_icT 41 rfl rfl b16 h) ?_
    refine pj_X_of (fun r h => pj_R_to (G14, 42, [(1, .int y13), (0, .ref 1)], [.ref 1], 0, 0) 42 2 (fun _ => rfl) h) ?_
    refine pj_X_of (fun r h => pj_T_gr iG14 rfl rfl rfl h) ?_
    refine pj_X_of (fun r h => pj_T_gr iG14 rfl rfl rfl h) ?_
    have q17 : (pj_fi G14 2 1).toInt = y15.toInt := by rw [show pj_fi G14 2 1 = y15 from hy15.symm]
    refine pj_X_ca (vs := [.ref 27]) rfl (fun _ => rfl) ⟨Nat.le_of_ble_eq_true rfl, Nat.le_of_ble_eq_true rfl, pj_T_rcv iG14 rfl⟩ ⟨rfl, rfl⟩ (pj_Y_up (by decide) (ct_59x G14 iG14)) ?_
    rintro _ G19 ⟨rfl, iG19, jG19, fy18⟩
    rw [← fy18, pj_nm_e]
    have kG19 : pj_kpt kc_122tx G0 G19 := pj_kpt_t kG14 (pj_kpt_s jG19 rfl)
    have q20 : (pj_fi G19 2 1).toInt = (pj_fi G14 2 1).toInt := by rw [jG19.1 (2, 1) (by decide)]
    obtain ⟨y21, hy21⟩ : ∃ z : Int32, z = pj_fi G19 2 1 := ⟨_, rfl⟩
    have ey21 : (pj_fi G19 2 1).toInt = y21.toInt := by rw [hy21]
    have ry21 : (0 : Int) ≤ y21.toInt ∧ y21.toInt ≤ 80 := by rw [hy21]; exact iG19.2.1 2 1 (0, 80) rfl
    show pj_X _ _ G19 51 [(1, .int y13), (0, .ref 1)] [] _
    refine pj_X_of (fun r h => pj_R_to (G19, 52, [(1, .int y13), (0, .ref 1)], [.int (Int32.ofInt 0)], 0, 0) 52 2 (fun _ => rfl) h) ?_
    have q22 : (pj_fi G19 2 1).toInt = y21.toInt := by rw [show pj_fi G19 2 1 = y21 from hy21.symm]
    exact pj_X_rt rfl rfl ⟨_, rfl, iG19, kG19, pj_i32 _, by omega, rfl⟩
  | false =>
    rw [pj_cF]
    have ub16 := pj_u_eqF b16
    refine pj_X_of (fun r h => pj_R_icF rfl b16 h) ?_
    refine pj_X_of (fun r h => pj_R_to (G14, 37, [(1, .int y13), (0, .ref 1)], [.int y13], 0, 0) 37 2 (fun _ => rfl) h) ?_
    have q23 : (pj_fi G14 2 1).toInt = y15.toInt := by rw [show pj_fi G14 2 1 = y15 from hy15.symm]
    refine pj_X_ca (vs := [.int y13]) rfl (fun _ => rfl) ⟨Nat.le_of_ble_eq_true rfl, Nat.le_of_ble_eq_true rfl, rfl⟩ ⟨rfl, rfl⟩ (pj_Y_up (by decide) (ct_162x G14 iG14 y13)) ?_
    rintro _ _ ⟨y24, rfl, rfl, ry24, fy24⟩
    rw [← fy24, pj_nm_e]
    show pj_X _ _ G14 40 [(1, .int y13), (0, .ref 1)] [.int y24] _
    have q25 : (pj_fi G14 2 1).toInt = y15.toInt := by rw [show pj_fi G14 2 1 = y15 from hy15.symm]
    exact pj_X_rt rfl rfl ⟨_, rfl, iG14, kG14, pj_i32 _, by omega, rfl⟩
theorem fr_122tx (G0 : pj_G) (hI : pj_Inv G0) : pj_Inv (F_122tx G0).2 ∧ pj_kpt kc_122tx G0 (F_122tx G0).2 ∧ ((pj_fi (F_122tx G0).2 2 1).toInt = 0) := by
  obtain ⟨v, G', -, y, -, i, j, r, x, e⟩ := ct_122tx G0 hI 
  rw [← e]
  exact ⟨i, j, x⟩
