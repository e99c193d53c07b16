def kc_38n : pj_KT := ([(153, 0), (153, 5), (153, 7), (153, 8), (159, 0), (159, 5), (159, 7), (159, 8), (165, 0), (165, 5), (165, 7), (165, 8)], [56, 153, 154, 155, 156, 157, 158, 159, 160, 161, 162, 163, 164, 165, 166, 167, 168, 169, 170], [56, 154, 155, 156, 157, 158, 160, 161, 162, 163, 164, 166, 167, 168, 169, 170])
theorem ct_38n (G0 : pj_G) (hI : pj_Inv G0) (i : Int32) : pj_Y 2 38 [.ref 53, .int i, .ref 21] G0 (fun v G' => ∃ y : Int32, v = some (.int y) ∧ pj_Inv G' ∧ pj_kpt kc_38n G0 G' ∧ ((0 : Int) ≤ y.toInt ∧ y.toInt ≤ 1) ∧ (mr_kp i G0 G' y)) := by
  have c0_ : (Int32.ofInt 0).toInt = 0 := by decide
  have c1_ : (Int32.ofInt 1).toInt = 1 := by decide
  have c2_ : (Int32.ofInt 3).toInt = 3 := by decide
  refine pj_Y_X (M := pj_m38) rfl rfl (Nat.le_of_ble_eq_true rfl) ?_
  have hK : pj_kpt kc_38n G0 G0 := pj_kpt_r _ _
  show pj_X _ _ G0 0 [(0, .ref 53), (1, .int i), (2, .ref 21)] [] _
  refine pj_X_of (fun r h => pj_R_to (G0, 1, [(0, .ref 53), (1, .int i), (2, .ref 21)], [.int i], 0, 0) 1 2 (fun _ => rfl) h) ?_
  cases b1 : pj_c1 .lt i 0 with
  | true =>
    have ub1 := pj_u0_ltT b1
    refine pj_X_of (fun r h => pj_R_ifT 9 rfl rfl b1 h) ?_
    refine pj_X_of (fun r h => pj_R_to (G0, 10, [(0, .ref 53), (1, .int i), (2, .ref 21)], [.int (Int32.ofInt 0)], 0, 0) 10 2 (fun _ => rfl) h) ?_
    exact pj_X_rt rfl rfl ⟨_, rfl, hI, hK, ⟨by omega, by omega⟩, .inr ⟨by omega, by omega, rfl⟩⟩
  | false =>
    have ub1 := pj_u0_ltF b1
    refine pj_X_of (fun r h => pj_R_ifF rfl b1 h) ?_
    refine pj_X_of (fun r h => pj_R_to (G0, 6, [(0, .ref 53), (1, .int i), (2, .ref 21)], [.int (Int32.ofInt 3), .int i], 0, 0) 6 3 (fun _ => rfl) h) ?_
    cases b2 : pj_c1 .lt i (Int32.ofInt 3) with
    | true =>
      have ub2 := pj_u_ltT b2
      refine pj_X_of (fun r h => pj_R_icT 11 rfl rfl b2 h) ?_
      refine pj_X_of (fun r h => pj_R_to (G0, 12, [(0, .ref 53), (1, .int i), (2, .ref 21)], [.ref 53], 0, 0) 12 2 (fun _ => rfl) h) ?_
      refine pj_X_of (fun r h => pj_T_gr hI rfl rfl rfl h) ?_
      refine pj_X_of (fun r h => pj_R_to (G0, 16, [(0, .ref 53), (1, .int i), (2, .ref 21)], [.int i, .ref 55], 0, 0) 16 2 (fun _ => rfl) h) ?_
      by_cases t3 : i.toInt = 0
      · refine pj_X_aa hI rfl rfl (k := 0) (by show _ = ((0 : Nat) : Int); omega) (by decide) rfl ?_
        refine pj_X_of (fun r h => pj_R_to (G0, 18, [(0, .ref 53), (1, .int i), (2, .ref 21)], [.ref 21, .ref 153], 0, 0) 18 2 (fun _ => rfl) h) ?_
        refine pj_X_ca (vs := [.ref 153, .ref 21]) rfl (fun _ => rfl) ⟨Nat.le_of_ble_eq_true rfl, Nat.le_of_ble_eq_true rfl, pj_T_rcv hI rfl⟩ ⟨rfl, rfl⟩ (pj_Y_up (by decide) (ct_68_153_21x G0 hI)) ?_
        rintro _ G5 ⟨rfl, iG5, jG5, eG5, fy4⟩
        replace eG5 := eG5 _ rfl
        have kG5 : pj_kpt kc_38n G0 G5 := pj_kpt_t hK (pj_kpt_s jG5 rfl)
        show pj_X _ _ G5 21 [(0, .ref 53), (1, .int i), (2, .ref 21)] [] _
        refine pj_X_of (fun r h => pj_R_to (G5, 22, [(0, .ref 53), (1, .int i), (2, .ref 21)], [.ref 53], 0, 0) 22 2 (fun _ => rfl) h) ?_
        refine pj_X_of (fun r h => pj_T_gr iG5 rfl rfl rfl h) ?_
        refine pj_X_of (fun r h => pj_R_to (G5, 27, [(0, .ref 53), (1, .int i), (2, .ref 21)], [.int (Int32.ofInt 1), .int i, .ref 56], 0, 0) 27 3 (fun _ => rfl) h) ?_
        refine pj_X_of (fun r h => pj_T_bs iG5 rfl rfl (by omega) (by omega) h) ?_
        show pj_X _ _ (pj_wa G5 56 i.toInt.toNat (vp_nar .boolean (Int32.ofInt 1))) 28 [(0, .ref 53), (1, .int i), (2, .ref 21)] [] _
        obtain ⟨G6, hG6⟩ : ∃ H, H = pj_wa G5 56 i.toInt.toNat (vp_nar .boolean (Int32.ofInt 1)) := ⟨_, rfl⟩
        have iG6 : pj_Inv G6 := by rw [hG6]; exact pj_Inv_wb iG5 rfl rfl rfl
        have kG6 : pj_kpt kc_38n G0 G6 := by rw [hG6]; exact pj_kpt_a kG5 rfl
        rw [← hG6]
        refine pj_X_of (fun r h => pj_R_to (G6, 29, [(0, .ref 53), (1, .int i), (2, .ref 21)], [.int (Int32.ofInt 1)], 0, 0) 29 2 (fun _ => rfl) h) ?_
        exact pj_X_rt rfl rfl ⟨_, rfl, iG6, kG6, ⟨by omega, by omega⟩, mr_kp1 0 (by decide) (by omega) iG5 jG5 rfl rfl eG5 rfl (by omega) hG6⟩
      by_cases t7 : i.toInt = 1
      · refine pj_X_aa hI rfl rfl (k := 1) (by show _ = ((1 : Nat) : Int); omega) (by decide) rfl ?_
        refine pj_X_of (fun r h => pj_R_to (G0, 18, [(0, .ref 53), (1, .int i), (2, .ref 21)], [.ref 21, .ref 159], 0, 0) 18 2 (fun _ => rfl) h) ?_
        refine pj_X_ca (vs := [.ref 159, .ref 21]) rfl (fun _ => rfl) ⟨Nat.le_of_ble_eq_true rfl, Nat.le_of_ble_eq_true rfl, pj_T_rcv hI rfl⟩ ⟨rfl, rfl⟩ (pj_Y_up (by decide) (ct_68_159_21x G0 hI)) ?_
        rintro _ G9 ⟨rfl, iG9, jG9, eG9, fy8⟩
        replace eG9 := eG9 _ rfl
        have kG9 : pj_kpt kc_38n G0 G9 := pj_kpt_t hK (pj_kpt_s jG9 rfl)
        show pj_X _ _ G9 21 [(0, .ref 53), (1, .int i), (2, .ref 21)] [] _
        refine pj_X_of (fun r h => pj_R_to (G9, 22, [(0, .ref 53), (1, .int i), (2, .ref 21)], [.ref 53], 0, 0) 22 2 (fun _ => rfl) h) ?_
        refine pj_X_of (fun r h => pj_T_gr iG9 rfl rfl rfl h) ?_
        refine pj_X_of (fun r h => pj_R_to (G9, 27, [(0, .ref 53), (1, .int i), (2, .ref 21)], [.int (Int32.ofInt 1), .int i, .ref 56], 0, 0) 27 3 (fun _ => rfl) h) ?_
        refine pj_X_of (fun r h => pj_T_bs iG9 rfl rfl (by omega) (by omega) h) ?_
        show pj_X _ _ (pj_wa G9 56 i.toInt.toNat (vp_nar .boolean (Int32.ofInt 1))) 28 [(0, .ref 53), (1, .int i), (2, .ref 21)] [] _
        obtain ⟨G10, hG10⟩ : ∃ H, H = pj_wa G9 56 i.toInt.toNat (vp_nar .boolean (Int32.ofInt 1)) := ⟨_, rfl⟩
        have iG10 : pj_Inv G10 := by rw [hG10]; exact pj_Inv_wb iG9 rfl rfl rfl
        have kG10 : pj_kpt kc_38n G0 G10 := by rw [hG10]; exact pj_kpt_a kG9 rfl
        rw [← hG10]
        refine pj_X_of (fun r h => pj_R_to (G10, 29, [(0, .ref 53), (1, .int i), (2, .ref 21)], [.int (Int32.ofInt 1)], 0, 0) 29 2 (fun _ => rfl) h) ?_
        exact pj_X_rt rfl rfl ⟨_, rfl, iG10, kG10, ⟨by omega, by omega⟩, mr_kp1 1 (by decide) (by omega) iG9 jG9 rfl rfl eG9 rfl (by omega) hG10⟩
      · refine pj_X_aa hI rfl rfl (k := 2) (by show _ = ((2 : Nat) : Int); omega) (by decide) rfl ?_
        refine pj_X_of (fun r h => pj_R_to (G0, 18, [(0, .ref 53), (1, .int i), (2, .ref 21)], [.ref 21, .ref 165], 0, 0) 18 2 (fun _ => rfl) h) ?_
        refine pj_X_ca (vs := [.ref 165, .ref 21]) rfl (fun _ => rfl) ⟨Nat.le_of_ble_eq_true rfl, Nat.le_of_ble_eq_true rfl, pj_T_rcv hI rfl⟩ ⟨rfl, rfl⟩ (pj_Y_up (by decide) (ct_68_165_21x G0 hI)) ?_
        rintro _ G12 ⟨rfl, iG12, jG12, eG12, fy11⟩
        replace eG12 := eG12 _ rfl
        have kG12 : pj_kpt kc_38n G0 G12 := pj_kpt_t hK (pj_kpt_s jG12 rfl)
        show pj_X _ _ G12 21 [(0, .ref 53), (1, .int i), (2, .ref 21)] [] _
        refine pj_X_of (fun r h => pj_R_to (G12, 22, [(0, .ref 53), (1, .int i), (2, .ref 21)], [.ref 53], 0, 0) 22 2 (fun _ => rfl) h) ?_
        refine pj_X_of (fun r h => pj_T_gr iG12 rfl rfl rfl h) ?_
        refine pj_X_of (fun r h => pj_R_to (G12, 27, [(0, .ref 53), (1, .int i), (2, .ref 21)], [.int (Int32.ofInt 1), .int i, .ref 56], 0, 0) 27 3 (fun _ => rfl) h) ?_
        refine pj_X_of (fun r h => pj_T_bs iG12 rfl rfl (by omega) (by omega) h) ?_
        show pj_X _ _ (pj_wa G12 56 i.toInt.toNat (vp_nar .boolean (Int32.ofInt 1))) 28 [(0, .ref 53), (1, .int i), (2, .ref 21)] [] _
        obtain ⟨G13, hG13⟩ : ∃ H, H = pj_wa G12 56 i.toInt.toNat (vp_nar .boolean (Int32.ofInt 1)) := ⟨_, rfl⟩
        have iG13 : pj_Inv G13 := by rw [hG13]; exact pj_Inv_wb iG12 rfl rfl rfl
        have kG13 : pj_kpt kc_38n G0 G13 := by rw [hG13]; exact pj_kpt_a kG12 rfl
        rw [← hG13]
        refine pj_X_of (fun r h => pj_R_to (G13, 29, [(0, .ref 53), (1, .int i), (2, .ref 21)], [.int (Int32.ofInt 1)], 0, 0) 29 2 (fun _ => rfl) h) ?_
        exact pj_X_rt rfl rfl ⟨_, rfl, iG13, kG13, ⟨by omega, by omega⟩, mr_kp1 2 (by decide) (by omega) iG12 jG12 rfl rfl eG12 rfl (by omega) hG13⟩
    | false =>
      have ub2 := pj_u_ltF b2
      refine pj_X_of (fun r h => pj_R_icF rfl b2 h) ?_
      refine pj_X_of (fun r h => pj_R_to (G0, 10, [(0, .ref 53), (1, .int i), (2, .ref 21)], [.int (Int32.ofInt 0)], 0, 0) 10 2 (fun _ => rfl) h) ?_
      exact pj_X_rt rfl rfl ⟨_, rfl, hI, hK, ⟨by omega, by omega⟩, .inr ⟨by omega, by omega, rfl⟩⟩
def kc_157n : pj_KT := ([(153, 0), (153, 5), (153, 7), (153, 8), (159, 0), (159, 5), (159, 7), (159, 8), (165, 0), (165, 5), (165, 7), (165, 8)], [56, 153, 154, 155, 156, 157, 158, 159, 160, 161, 162, 163, 164, 165, 166, 167, 168, 169, 170], [56, 154, 155, 156, 157, 158, 160, 161, 162, 163, 164, 166, 167, 168, 169, 170])
theorem ct_157n (G0 : pj_G) (hI : pj_Inv G0) (i : Int32) : pj_Y 3 157 [.ref 1, .int i] G0 (fun v G' => ∃ y : Int32, v = some (.int y) ∧ pj_Inv G' ∧ pj_kpt kc_157n G0 G' ∧ ((0 : Int) ≤ y.toInt ∧ y.toInt ≤ 1) ∧ (mr_kp i G0 G' y)) := by
  refine pj_Y_X (M := pj_m157) rfl rfl (Nat.le_of_ble_eq_true rfl) ?_
  have hK : pj_kpt kc_157n G0 G0 := pj_kpt_r _ _
  show pj_X _ _ G0 0 [(0, .ref 1), (1, .int i)] [] _
  refine pj_X_of (fun r h => pj_R_to (G0, 1, [(0, .ref 1), (1, .int i)], [.ref 1], 0, 0) 1 2 (fun _ => rfl) h) ?_
  refine pj_X_of (fun r h => pj_T_gr hI rfl rfl rfl h) ?_
  refine pj_X_of (fun r h => pj_R_to (G0, 6, [(0, .ref 1), (1, .int i)], [.ref 1, .int i, .ref 53], 0, 0) 6 3 (fun _ => rfl) h) ?_
  refine pj_X_of (fun r h => pj_T_gr hI rfl rfl rfl h) ?_
  refine pj_X_of (fun r h => pj_T_gr hI rfl rfl rfl h) ?_
  refine pj_X_ca (vs := [.ref 53, .int i, .ref 21]) rfl (fun _ => rfl) ⟨Nat.le_of_ble_eq_true rfl, Nat.le_of_ble_eq_true rfl, pj_T_rcv hI rfl⟩ ⟨rfl, rfl⟩ (pj_Y_up (by decide) (ct_38n G0 hI i)) ?_
  rintro _ G2 ⟨y1, rfl, iG2, jG2, ry1, ey1⟩
  have kG2 : pj_kpt kc_157n G0 G2 := pj_kpt_t hK (pj_kpt_s jG2 rfl)
  show pj_X _ _ G2 15 [(0, .ref 1), (1, .int i)] [.int y1] _
  exact pj_X_rt (v := some (.int y1)) rfl (pj_rtb ⟨by omega, by omega⟩) ⟨_, rfl, iG2, kG2, ⟨by omega, by omega⟩, ey1⟩
theorem ct_39nk (G0 : pj_G) (hI : pj_Inv G0) (i : Int32) : pj_Y 1 39 [.ref 53, .int i, .ref 21] G0 (fun v G' => ∃ y : Int32, v = some (.int y) ∧ G0 = G' ∧ ((0 : Int) ≤ y.toInt ∧ y.toInt ≤ 1) ∧ ((1 ≤ y.toInt → 0 ≤ i.toInt ∧ i.toInt ≤ 2 ∧ (i.toInt = 0 → (pj_fi G0 153 0).toInt = (pj_fi G0 21 0).toInt ∧ (pj_fi G0 153 5).toInt = (pj_fi G0 21 5).toInt) ∧ (i.toInt = 1 → (pj_fi G0 159 0).toInt = (pj_fi G0 21 0).toInt ∧ (pj_fi G0 159 5).toInt = (pj_fi G0 21 5).toInt) ∧ (i.toInt = 2 → (pj_fi G0 165 0).toInt = (pj_fi G0 21 0).toInt ∧ (pj_fi G0 165 5).toInt = (pj_fi G0 21 5).toInt)) ∧ ((1 ≤ y.toInt → (0 ≤ i.toInt ∧ i.toInt ≤ 2 ∧ ¬ (pj_ai G0 56 i.toInt.toNat).toInt = 0 ∧ ((i.toInt = 0 → (pj_fi G0 153 0).toInt = (pj_fi G0 21 0).toInt ∧ (pj_fi G0 153 5).toInt = (pj_fi G0 21 5).toInt) ∧ (i.toInt = 1 → (pj_fi G0 159 0).toInt = (pj_fi G0 21 0).toInt ∧ (pj_fi G0 159 5).toInt = (pj_fi G0 21 5).toInt) ∧ (i.toInt = 2 → (pj_fi G0 165 0).toInt = (pj_fi G0 21 0).toInt ∧ (pj_fi G0 165 5).toInt = (pj_fi G0 21 5).toInt)))) ∧ (y.toInt = 0 → ¬ (0 ≤ i.toInt ∧ i.toInt ≤ 2 ∧ ¬ (pj_ai G0 56 i.toInt.toNat).toInt = 0 ∧ ((i.toInt = 0 → (pj_fi G0 153 0).toInt = (pj_fi G0 21 0).toInt ∧ (pj_fi G0 153 5).toInt = (pj_fi G0 21 5).toInt) ∧ (i.toInt = 1 → (pj_fi G0 159 0).toInt = (pj_fi G0 21 0).toInt ∧ (pj_fi G0 159 5).toInt = (pj_fi G0 21 5).toInt) ∧ (i.toInt = 2 → (pj_fi G0 165 0).toInt = (pj_fi G0 21 0).toInt ∧ (pj_fi G0 165 5).toInt = (pj_fi G0 21 5).toInt))))))) := by
  have c0_ : (Int32.ofInt 0).toInt = 0 := by decide
  have c1_ : (Int32.ofInt 1).toInt = 1 := by decide
  have c2_ : (Int32.ofInt 3).toInt = 3 := by decide
  refine pj_Y_X (M := pj_m39) rfl rfl (Nat.le_of_ble_eq_true rfl) ?_
  have hK : pj_kpt ([], [], []) G0 G0 := pj_kpt_r _ _
  show pj_X _ _ G0 0 [(0, .ref 53), (1, .int i), (2, .ref 21)] [] _
  obtain ⟨y1, hy1⟩ : ∃ z : Int32, z = pj_fi G0 21 0 := ⟨_, rfl⟩
  have ey1 : (pj_fi G0 21 0).toInt = y1.toInt := by rw [hy1]
  have ry1 : (0 : Int) ≤ y1.toInt ∧ y1.toInt ≤ 6 := by rw [hy1]; exact hI.2.1 21 0 (0, 6) rfl
  obtain ⟨y2, hy2⟩ : ∃ z : Int32, z = pj_fi G0 21 5 := ⟨_, rfl⟩
  have ey2 : (pj_fi G0 21 5).toInt = y2.toInt := by rw [hy2]
  have ry2 : (0 : Int) ≤ y2.toInt ∧ y2.toInt ≤ 6 := by rw [hy2]; exact hI.2.1 21 5 (0, 6) rfl
  obtain ⟨y3, hy3⟩ : ∃ z : Int32, z = pj_fi G0 153 0 := ⟨_, rfl⟩
  have ey3 : (pj_fi G0 153 0).toInt = y3.toInt := by rw [hy3]
  have ry3 : (0 : Int) ≤ y3.toInt ∧ y3.toInt ≤ 6 := by rw [hy3]; exact hI.2.1 153 0 (0, 6) rfl
  obtain ⟨y4, hy4⟩ : ∃ z : Int32, z = pj_fi G0 153 5 := ⟨_, rfl⟩
  have ey4 : (pj_fi G0 153 5).toInt = y4.toInt := by rw [hy4]
  have ry4 : (0 : Int) ≤ y4.toInt ∧ y4.toInt ≤ 6 := by rw [hy4]; exact hI.2.1 153 5 (0, 6) rfl
  obtain ⟨y5, hy5⟩ : ∃ z : Int32, z = pj_fi G0 159 0 := ⟨_, rfl⟩
  have ey5 : (pj_fi G0 159 0).toInt = y5.toInt := by rw [hy5]
  have ry5 : (0 : Int) ≤ y5.toInt ∧ y5.toInt ≤ 6 := by rw [hy5]; exact hI.2.1 159 0 (0, 6) rfl
  obtain ⟨y6, hy6⟩ : ∃ z : Int32, z = pj_fi G0 159 5 := ⟨_, rfl⟩
  have ey6 : (pj_fi G0 159 5).toInt = y6.toInt := by rw [hy6]
  have ry6 : (0 : Int) ≤ y6.toInt ∧ y6.toInt ≤ 6 := by rw [hy6]; exact hI.2.1 159 5 (0, 6) rfl
  obtain ⟨y7, hy7⟩ : ∃ z : Int32, z = pj_fi G0 165 0 := ⟨_, rfl⟩
  have ey7 : (pj_fi G0 165 0).toInt = y7.toInt := by rw [hy7]
  have ry7 : (0 : Int) ≤ y7.toInt ∧ y7.toInt ≤ 6 := by rw [hy7]; exact hI.2.1 165 0 (0, 6) rfl
  obtain ⟨y8, hy8⟩ : ∃ z : Int32, z = pj_fi G0 165 5 := ⟨_, rfl⟩
  have ey8 : (pj_fi G0 165 5).toInt = y8.toInt := by rw [hy8]
  have ry8 : (0 : Int) ≤ y8.toInt ∧ y8.toInt ≤ 6 := by rw [hy8]; exact hI.2.1 165 5 (0, 6) rfl
  refine pj_X_of (fun r h => pj_R_to (G0, 1, [(0, .ref 53), (1, .int i), (2, .ref 21)], [.int i], 0, 0) 1 2 (fun _ => rfl) h) ?_
  cases b9 : pj_c1 .lt i 0 with
  | true =>
    have ub9 := pj_u0_ltT b9
    refine pj_X_of (fun r h => pj_R_ifT 54 rfl rfl b9 h) ?_
    refine pj_X_of (fun r h => pj_R_to (G0, 55, [(0, .ref 53), (1, .int i), (2, .ref 21)], [.int (Int32.ofInt 0)], 0, 0) 55 2 (fun _ => rfl) h) ?_
    have q10 : (pj_fi G0 21 0).toInt = y1.toInt := by rw [show pj_fi G0 21 0 = y1 from hy1.symm]
    have q11 : (pj_fi G0 21 5).toInt = y2.toInt := by rw [show pj_fi G0 21 5 = y2 from hy2.symm]
    have q12 : (pj_fi G0 153 0).toInt = y3.toInt := by rw [show pj_fi G0 153 0 = y3 from hy3.symm]
    have q13 : (pj_fi G0 153 5).toInt = y4.toInt := by rw [show pj_fi G0 153 5 = y4 from hy4.symm]
    have q14 : (pj_fi G0 159 0).toInt = y5.toInt := by rw [show pj_fi G0 159 0 = y5 from hy5.symm]
    have q15 : (pj_fi G0 159 5).toInt = y6.toInt := by rw [show pj_fi G0 159 5 = y6 from hy6.symm]
    have q16 : (pj_fi G0 165 0).toInt = y7.toInt := by rw [show pj_fi G0 165 0 = y7 from hy7.symm]
    have q17 : (pj_fi G0 165 5).toInt = y8.toInt := by rw [show pj_fi G0 165 5 = y8 from hy8.symm]
    exact pj_X_rt rfl rfl ⟨_, rfl, rfl, ⟨by omega, by omega⟩, ⟨by omega, ⟨by omega, by omega⟩⟩⟩
  | false =>
    have ub9 := pj_u0_ltF b9
    refine pj_X_of (fun r h => pj_R_ifF rfl b9 h) ?_
    refine pj_X_of (fun r h => pj_R_to (G0, 6, [(0, .ref 53), (1, .int i), (2, .ref 21)], [.int (Int32.ofInt 3), .int i], 0, 0) 6 3 (fun _ => rfl) h) ?_
    cases b18 : pj_c1 .ge i (Int32.ofInt 3) with
    | true =>
      have ub18 := pj_u_geT b18
      refine pj_X_of (fun r h => pj_R_icT 54 rfl rfl b18 h) ?_
      refine pj_X_of (fun r h => pj_R_to (G0, 55, [(0, .ref 53), (1, .int i), (2, .ref 21)], [.int (Int32.ofInt 0)], 0, 0) 55 2 (fun _ => rfl) h) ?_
      have q19 : (pj_fi G0 21 0).toInt = y1.toInt := by rw [show pj_fi G0 21 0 = y1 from hy1.symm]
      have q20 : (pj_fi G0 21 5).toInt = y2.toInt := by rw [show pj_fi G0 21 5 = y2 from hy2.symm]
      have q21 : (pj_fi G0 153 0).toInt = y3.toInt := by rw [show pj_fi G0 153 0 = y3 from hy3.symm]
      have q22 : (pj_fi G0 153 5).toInt = y4.toInt := by rw [show pj_fi G0 153 5 = y4 from hy4.symm]
      have q23 : (pj_fi G0 159 0).toInt = y5.toInt := by rw [show pj_fi G0 159 0 = y5 from hy5.symm]
      have q24 : (pj_fi G0 159 5).toInt = y6.toInt := by rw [show pj_fi G0 159 5 = y6 from hy6.symm]
      have q25 : (pj_fi G0 165 0).toInt = y7.toInt := by rw [show pj_fi G0 165 0 = y7 from hy7.symm]
      have q26 : (pj_fi G0 165 5).toInt = y8.toInt := by rw [show pj_fi G0 165 5 = y8 from hy8.symm]
      exact pj_X_rt rfl rfl ⟨_, rfl, rfl, ⟨by omega, by omega⟩, ⟨by omega, ⟨by omega, by omega⟩⟩⟩
    | false =>
      have ub18 := pj_u_geF b18
      refine pj_X_of (fun r h => pj_R_icF rfl b18 h) ?_
      refine pj_X_of (fun r h => pj_R_to (G0, 10, [(0, .ref 53), (1, .int i), (2, .ref 21)], [.ref 53], 0, 0) 10 2 (fun _ => rfl) h) ?_
      refine pj_X_of (fun r h => pj_T_gr hI rfl rfl rfl h) ?_
      refine pj_X_of (fun r h => pj_R_to (G0, 14, [(0, .ref 53), (1, .int i), (2, .ref 21)], [.int i, .ref 56], 0, 0) 14 2 (fun _ => rfl) h) ?_
      refine pj_X_of (fun r h => pj_T_bl hI rfl rfl (by omega) (by omega) h) ?_
      show pj_X _ _ G0 15 [(0, .ref 53), (1, .int i), (2, .ref 21)] [.int (pj_ai G0 56 i.toInt.toNat)] _
      obtain ⟨z27, hz27⟩ : ∃ z : Int32, z = pj_ai G0 56 i.toInt.toNat := ⟨_, rfl⟩
      refine pj_X_eqi hz27.symm ?_
      have ez27 : (pj_ai G0 56 i.toInt.toNat).toInt = z27.toInt := by rw [hz27]
      cases b28 : pj_c1 .eq z27 0 with
      | true =>
        have ub28 := pj_u0_eqT b28
        refine pj_X_of (fun r h => pj_R_ifT 54 rfl rfl b28 h) ?_
        refine pj_X_of (fun r h => pj_R_to (G0, 55, [(0, .ref 53), (1, .int i), (2, .ref 21)], [.int (Int32.ofInt 0)], 0, 0) 55 2 (fun _ => rfl) h) ?_
        have q29 : (pj_fi G0 21 0).toInt = y1.toInt := by rw [show pj_fi G0 21 0 = y1 from hy1.symm]
        have q30 : (pj_fi G0 21 5).toInt = y2.toInt := by rw [show pj_fi G0 21 5 = y2 from hy2.symm]
        have q31 : (pj_fi G0 153 0).toInt = y3.toInt := by rw [show pj_fi G0 153 0 = y3 from hy3.symm]
        have q32 : (pj_fi G0 153 5).toInt = y4.toInt := by rw [show pj_fi G0 153 5 = y4 from hy4.symm]
        have q33 : (pj_fi G0 159 0).toInt = y5.toInt := by rw [show pj_fi G0 159 0 = y5 from hy5.symm]
        have q34 : (pj_fi G0 159 5).toInt = y6.toInt := by rw [show pj_fi G0 159 5 = y6 from hy6.symm]
        have q35 : (pj_fi G0 165 0).toInt = y7.toInt := by rw [show pj_fi G0 165 0 = y7 from hy7.symm]
        have q36 : (pj_fi G0 165 5).toInt = y8.toInt := by rw [show pj_fi G0 165 5 = y8 from hy8.symm]
        exact pj_X_rt rfl rfl ⟨_, rfl, rfl, ⟨by omega, by omega⟩, ⟨by omega, ⟨by omega, by omega⟩⟩⟩
      | false =>
        have ub28 := pj_u0_eqF b28
        refine pj_X_of (fun r h => pj_R_ifF rfl b28 h) ?_
        refine pj_X_of (fun r h => pj_R_to (G0, 19, [(0, .ref 53), (1, .int i), (2, .ref 21)], [.ref 53], 0, 0) 19 2 (fun _ => rfl) h) ?_
        refine pj_X_of (fun r h => pj_T_gr hI rfl rfl rfl h) ?_
        refine pj_X_of (fun r h => pj_R_to (G0, 23, [(0, .ref 53), (1, .int i), (2, .ref 21)], [.int i, .ref 55], 0, 0) 23 2 (fun _ => rfl) h) ?_
        by_cases t37 : i.toInt = 0
        · refine pj_X_aa hI rfl rfl (k := 0) (by show _ = ((0 : Nat) : Int); omega) (by decide) rfl ?_
          refine pj_X_of (fun r h => pj_T_gi hI rfl rfl h) ?_
          show pj_X _ _ G0 27 [(0, .ref 53), (1, .int i), (2, .ref 21)] [.int (pj_fi G0 153 0)] _
          refine pj_X_eqi (show pj_fi G0 153 0 = y3 from hy3.symm) ?_
          refine pj_X_of (fun r h => pj_R_to (G0, 28, [(0, .ref 53), (1, .int i), (2, .ref 21)], [.ref 21, .int y3], 0, 0) 28 2 (fun _ => rfl) h) ?_
          refine pj_X_of (fun r h => pj_T_gi hI rfl rfl h) ?_
          show pj_X _ _ G0 31 [(0, .ref 53), (1, .int i), (2, .ref 21)] [.int (pj_fi G0 21 0), .int y3] _
          refine pj_X_eqi (show pj_fi G0 21 0 = y1 from hy1.symm) ?_
          cases b38 : pj_c1 .ne y3 y1 with
          | true =>
            have ub38 := pj_u_neT b38
            refine pj_X_of (fun r h => pj_R_icT 54 rfl rfl b38 h) ?_
            refine pj_X_of (fun r h => pj_R_to (G0, 55, [(0, .ref 53), (1, .int i), (2, .ref 21)], [.int (Int32.ofInt 0)], 0, 0) 55 2 (fun _ => rfl) h) ?_
            have q39 : (pj_fi G0 21 0).toInt = y1.toInt := by rw [show pj_fi G0 21 0 = y1 from hy1.symm]
            have q40 : (pj_fi G0 21 5).toInt = y2.toInt := by rw [show pj_fi G0 21 5 = y2 from hy2.symm]
            have q41 : (pj_fi G0 153 0).toInt = y3.toInt := by rw [show pj_fi G0 153 0 = y3 from hy3.symm]
            have q42 : (pj_fi G0 153 5).toInt = y4.toInt := by rw [show pj_fi G0 153 5 = y4 from hy4.symm]
            have q43 : (pj_fi G0 159 0).toInt = y5.toInt := by rw [show pj_fi G0 159 0 = y5 from hy5.symm]
            have q44 : (pj_fi G0 159 5).toInt = y6.toInt := by rw [show pj_fi G0 159 5 = y6 from hy6.symm]
            have q45 : (pj_fi G0 165 0).toInt = y7.toInt := by rw [show pj_fi G0 165 0 = y7 from hy7.symm]
            have q46 : (pj_fi G0 165 5).toInt = y8.toInt := by rw [show pj_fi G0 165 5 = y8 from hy8.symm]
            exact pj_X_rt rfl rfl ⟨_, rfl, rfl, ⟨by omega, by omega⟩, ⟨by omega, ⟨by omega, by omega⟩⟩⟩
          | false =>
            have ub38 := pj_u_neF b38
            refine pj_X_of (fun r h => pj_R_icF rfl b38 h) ?_
            refine pj_X_of (fun r h => pj_R_to (G0, 35, [(0, .ref 53), (1, .int i), (2, .ref 21)], [.ref 53], 0, 0) 35 2 (fun _ => rfl) h) ?_
            refine pj_X_of (fun r h => pj_T_gr hI rfl rfl rfl h) ?_
            refine pj_X_of (fun r h => pj_R_to (G0, 39, [(0, .ref 53), (1, .int i), (2, .ref 21)], [.int i, .ref 55], 0, 0) 39 2 (fun _ => rfl) h) ?_
            · refine pj_X_aa hI rfl rfl (k := 0) (by show _ = ((0 : Nat) : Int); omega) (by decide) rfl ?_
              refine pj_X_of (fun r h => pj_T_gi hI rfl rfl h) ?_
              show pj_X _ _ G0 43 [(0, .ref 53), (1, .int i), (2, .ref 21)] [.int (pj_fi G0 153 5)] _
              refine pj_X_eqi (show pj_fi G0 153 5 = y4 from hy4.symm) ?_
              refine pj_X_of (fun r h => pj_R_to (G0, 44, [(0, .ref 53), (1, .int i), (2, .ref 21)], [.ref 21, .int y4], 0, 0) 44 2 (fun _ => rfl) h) ?_
              refine pj_X_of (fun r h => pj_T_gi hI rfl rfl h) ?_
              show pj_X _ _ G0 47 [(0, .ref 53), (1, .int i), (2, .ref 21)] [.int (pj_fi G0 21 5), .int y4] _
              refine pj_X_eqi (show pj_fi G0 21 5 = y2 from hy2.symm) ?_
              cases b47 : pj_c1 .ne y4 y2 with
              | true =>
                have ub47 := pj_u_neT b47
                refine pj_X_of (fun r h => pj_R_icT 54 rfl rfl b47 h) ?_
                refine pj_X_of (fun r h => pj_R_to (G0, 55, [(0, .ref 53), (1, .int i), (2, .ref 21)], [.int (Int32.ofInt 0)], 0, 0) 55 2 (fun _ => rfl) h) ?_
                have q48 : (pj_fi G0 21 0).toInt = y1.toInt := by rw [show pj_fi G0 21 0 = y1 from hy1.symm]
                have q49 : (pj_fi G0 21 5).toInt = y2.toInt := by rw [show pj_fi G0 21 5 = y2 from hy2.symm]
                have q50 : (pj_fi G0 153 0).toInt = y3.toInt := by rw [show pj_fi G0 153 0 = y3 from hy3.symm]
                have q51 : (pj_fi G0 153 5).toInt = y4.toInt := by rw [show pj_fi G0 153 5 = y4 from hy4.symm]
                have q52 : (pj_fi G0 159 0).toInt = y5.toInt := by rw [show pj_fi G0 159 0 = y5 from hy5.symm]
                have q53 : (pj_fi G0 159 5).toInt = y6.toInt := by rw [show pj_fi G0 159 5 = y6 from hy6.symm]
                have q54 : (pj_fi G0 165 0).toInt = y7.toInt := by rw [show pj_fi G0 165 0 = y7 from hy7.symm]
                have q55 : (pj_fi G0 165 5).toInt = y8.toInt := by rw [show pj_fi G0 165 5 = y8 from hy8.symm]
                exact pj_X_rt rfl rfl ⟨_, rfl, rfl, ⟨by omega, by omega⟩, ⟨by omega, ⟨by omega, by omega⟩⟩⟩
              | false =>
                have ub47 := pj_u_neF b47
                refine pj_X_of (fun r h => pj_R_icF rfl b47 h) ?_
                refine pj_X_of (fun r h => pj_R_to (G0, 55, [(0, .ref 53), (1, .int i), (2, .ref 21)], [.int (Int32.ofInt 1)], 0, 0) 55 3 (fun _ => rfl) h) ?_
                have q56 : (pj_fi G0 21 0).toInt = y1.toInt := by rw [show pj_fi G0 21 0 = y1 from hy1.symm]
                have q57 : (pj_fi G0 21 5).toInt = y2.toInt := by rw [show pj_fi G0 21 5 = y2 from hy2.symm]
                have q58 : (pj_fi G0 153 0).toInt = y3.toInt := by rw [show pj_fi G0 153 0 = y3 from hy3.symm]
                have q59 : (pj_fi G0 153 5).toInt = y4.toInt := by rw [show pj_fi G0 153 5 = y4 from hy4.symm]
                have q60 : (pj_fi G0 159 0).toInt = y5.toInt := by rw [show pj_fi G0 159 0 = y5 from hy5.symm]
                have q61 : (pj_fi G0 159 5).toInt = y6.toInt := by rw [show pj_fi G0 159 5 = y6 from hy6.symm]
                have q62 : (pj_fi G0 165 0).toInt = y7.toInt := by rw [show pj_fi G0 165 0 = y7 from hy7.symm]
                have q63 : (pj_fi G0 165 5).toInt = y8.toInt := by rw [show pj_fi G0 165 5 = y8 from hy8.symm]
                exact pj_X_rt rfl rfl ⟨_, rfl, rfl, ⟨by omega, by omega⟩, ⟨by omega, ⟨by omega, by omega⟩⟩⟩
        by_cases t64 : i.toInt = 1
        · refine pj_X_aa hI rfl rfl (k := 1) (by show _ = ((1 : Nat) : Int); omega) (by decide) rfl ?_
          refine pj_X_of (fun r h => pj_T_gi hI rfl rfl h) ?_
          show pj_X _ _ G0 27 [(0, .ref 53), (1, .int i), (2, .ref 21)] [.int (pj_fi G0 159 0)] _
          refine pj_X_eqi (show pj_fi G0 159 0 = y5 from hy5.symm) ?_
          refine pj_X_of (fun r h => pj_R_to (G0, 28, [(0, .ref 53), (1, .int i), (2, .ref 21)], [.ref 21, .int y5], 0, 0) 28 2 (fun _ => rfl) h) ?_
          refine pj_X_of (fun r h => pj_T_gi hI rfl rfl h) ?_
          show pj_X _ _ G0 31 [(0, .ref 53), (1, .int i), (2, .ref 21)] [.int (pj_fi G0 21 0), .int y5] _
          refine pj_X_eqi (show pj_fi G0 21 0 = y1 from hy1.symm) ?_
          cases b65 : pj_c1 .ne y5 y1 with
          | true =>
            have ub65 := pj_u_neT b65
            refine pj_X_of (fun r h => pj_R_icT 54 rfl rfl b65 h) ?_
            refine pj_X_of (fun r h => pj_R_to (G0, 55, [(0, .ref 53), (1, .int i), (2, .ref 21)], [.int (Int32.ofInt 0)], 0, 0) 55 2 (fun _ => rfl) h) ?_
            have q66 : (pj_fi G0 21 0).toInt = y1.toInt := by rw [show pj_fi G0 21 0 = y1 from hy1.symm]
            have q67 : (pj_fi G0 21 5).toInt = y2.toInt := by rw [show pj_fi G0 21 5 = y2 from hy2.symm]
            have q68 : (pj_fi G0 153 0).toInt = y3.toInt := by rw [show pj_fi G0 153 0 = y3 from hy3.symm]
            have q69 : (pj_fi G0 153 5).toInt = y4.toInt := by rw [show pj_fi G0 153 5 = y4 from hy4.symm]
            have q70 : (pj_fi G0 159 0).toInt = y5.toInt := by rw [show pj_fi G0 159 0 = y5 from hy5.symm]
            have q71 : (pj_fi G0 159 5).toInt = y6.toInt := by rw [show pj_fi G0 159 5 = y6 from hy6.symm]
            have q72 : (pj_fi G0 165 0).toInt = y7.toInt := by rw [show pj_fi G0 165 0 = y7 from hy7.symm]
            have q73 : (pj_fi G0 165 5).toInt = y8.toInt := by rw [show pj_fi G0 165 5 = y8 from hy8.symm]
            exact pj_X_rt rfl rfl ⟨_, rfl, rfl, ⟨by omega, by omega⟩, ⟨by omega, ⟨by omega, by omega⟩⟩⟩
          | false =>
            have ub65 := pj_u_neF b65
            refine pj_X_of (fun r h => pj_R_icF rfl b65 h) ?_
            refine pj_X_of (fun r h => pj_R_to (G0, 35, [(0, .ref 53), (1, .int i), (2, .ref 21)], [.ref 53], 0, 0) 35 2 (fun _ => rfl) h) ?_
            refine pj_X_of (fun r h => pj_T_gr hI rfl rfl rfl h) ?_
            refine pj_X_of (fun r h => pj_R_to (G0, 39, [(0, .ref 53), (1, .int i), (2, .ref 21)], [.int i, .ref 55], 0, 0) 39 2 (fun _ => rfl) h) ?_
            · refine pj_X_aa hI rfl rfl (k := 1) (by show _ = ((1 : Nat) : Int); omega) (by decide) rfl ?_
              refine pj_X_of (fun r h => pj_T_gi hI rfl rfl h) ?_
              show pj_X _ _ G0 43 [(0, .ref 53), (1, .int i), (2, .ref 21)] [.int (pj_fi G0 159 5)] _
              refine pj_X_eqi (show pj_fi G0 159 5 = y6 from hy6.symm) ?_
              refine pj_X_of (fun r h => pj_R_to (G0, 44, [(0, .ref 53), (1, .int i), (2, .ref 21)], [.ref 21, .int y6], 0, 0) 44 2 (fun _ => rfl) h) ?_
              refine pj_X_of (fun r h => pj_T_gi hI rfl rfl h) ?_
              show pj_X _ _ G0 47 [(0, .ref 53), (1, .int i), (2, .ref 21)] [.int (pj_fi G0 21 5), .int y6] _
              refine pj_X_eqi (show pj_fi G0 21 5 = y2 from hy2.symm) ?_
              cases b74 : pj_c1 .ne y6 y2 with
              | true =>
                have ub74 := pj_u_neT b74
                refine pj_X_of (fun r h => pj_R_icT 54 rfl rfl b74 h) ?_
                refine pj_X_of (fun r h => pj_R_to (G0, 55, [(0, .ref 53), (1, .int i), (2, .ref 21)], [.int (Int32.ofInt 0)], 0, 0) 55 2 (fun _ => rfl) h) ?_
                have q75 : (pj_fi G0 21 0).toInt = y1.toInt := by rw [show pj_fi G0 21 0 = y1 from hy1.symm]
                have q76 : (pj_fi G0 21 5).toInt = y2.toInt := by rw [show pj_fi G0 21 5 = y2 from hy2.symm]
                have q77 : (pj_fi G0 153 0).toInt = y3.toInt := by rw [show pj_fi G0 153 0 = y3 from hy3.symm]
                have q78 : (pj_fi G0 153 5).toInt = y4.toInt := by rw [show pj_fi G0 153 5 = y4 from hy4.symm]
                have q79 : (pj_fi G0 159 0).toInt = y5.toInt := by rw [show pj_fi G0 159 0 = y5 from hy5.symm]
                have q80 : (pj_fi G0 159 5).toInt = y6.toInt := by rw [show pj_fi G0 159 5 = y6 from hy6.symm]
                have q81 : (pj_fi G0 165 0).toInt = y7.toInt := by rw [show pj_fi G0 165 0 = y7 from hy7.symm]
                have q82 : (pj_fi G0 165 5).toInt = y8.toInt := by rw [show pj_fi G0 165 5 = y8 from hy8.symm]
                exact pj_X_rt rfl rfl ⟨_, rfl, rfl, ⟨by omega, by omega⟩, ⟨by omega, ⟨by omega, by omega⟩⟩⟩
              | false =>
                have ub74 := pj_u_neF b74
                refine pj_X_of (fun r h => pj_R_icF rfl b74 h) ?_
                refine pj_X_of (fun r h => pj_R_to (G0, 55, [(0, .ref 53), (1, .int i), (2, .ref 21)], [.int (Int32.ofInt 1)], 0, 0) 55 3 (fun _ => rfl) h) ?_
                have q83 : (pj_fi G0 21 0).toInt = y1.toInt := by rw [show pj_fi G0 21 0 = y1 from hy1.symm]
                have q84 : (pj_fi G0 21 5).toInt = y2.toInt := by rw [show pj_fi G0 21 5 = y2 from hy2.symm]
                have q85 : (pj_fi G0 153 0).toInt = y3.toInt := by rw [show pj_fi G0 153 0 = y3 from hy3.symm]
                have q86 : (pj_fi G0 153 5).toInt = y4.toInt := by rw [show pj_fi G0 153 5 = y4 from hy4.symm]
                have q87 : (pj_fi G0 159 0).toInt = y5.toInt := by rw [show pj_fi G0 159 0 = y5 from hy5.symm]
                have q88 : (pj_fi G0 159 5).toInt = y6.toInt := by rw [show pj_fi G0 159 5 = y6 from hy6.symm]
                have q89 : (pj_fi G0 165 0).toInt = y7.toInt := by rw [show pj_fi G0 165 0 = y7 from hy7.symm]
                have q90 : (pj_fi G0 165 5).toInt = y8.toInt := by rw [show pj_fi G0 165 5 = y8 from hy8.symm]
                exact pj_X_rt rfl rfl ⟨_, rfl, rfl, ⟨by omega, by omega⟩, ⟨by omega, ⟨by omega, by omega⟩⟩⟩
        · refine pj_X_aa hI rfl rfl (k := 2) (by show _ = ((2 : Nat) : Int); omega) (by decide) rfl ?_
          refine pj_X_of (fun r h => pj_T_gi hI rfl rfl h) ?_
          show pj_X _ _ G0 27 [(0, .ref 53), (1, .int i), (2, .ref 21)] [.int (pj_fi G0 165 0)] _
          refine pj_X_eqi (show pj_fi G0 165 0 = y7 from hy7.symm) ?_
          refine pj_X_of (fun r h => pj_R_to (G0, 28, [(0, .ref 53), (1, .int i), (2, .ref 21)], [.ref 21, .int y7], 0, 0) 28 2 (fun _ => rfl) h) ?_
          refine pj_X_of (fun r h => pj_T_gi hI rfl rfl h) ?_
          show pj_X _ _ G0 31 [(0, .ref 53), (1, .int i), (2, .ref 21)] [.int (pj_fi G0 21 0), .int y7] _
          refine pj_X_eqi (show pj_fi G0 21 0 = y1 from hy1.symm) ?_
          cases b91 : pj_c1 .ne y7 y1 with
          | true =>
            have ub91 := pj_u_neT b91
            refine pj_X_of (fun r h => pj_R_icT 54 rfl rfl b91 h) ?_
            refine pj_X_of (fun r h => pj_R_to (G0, 55, [(0, .ref 53), (1, .int i), (2, .ref 21)], [.int (Int32.ofInt 0)], 0, 0) 55 2 (fun _ => rfl) h) ?_
            have q92 : (pj_fi G0 21 0).toInt = y1.toInt := by rw [show pj_fi G0 21 0 = y1 from hy1.symm]
            have q93 : (pj_fi G0 21 5).toInt = y2.toInt := by rw [show pj_fi G0 21 5 = y2 from hy2.symm]
            have q94 : (pj_fi G0 153 0).toInt = y3.toInt := by rw [show pj_fi G0 153 0 = y3 from hy3.symm]
            have q95 : (pj_fi G0 153 5).toInt = y4.toInt := by rw [show pj_fi G0 153 5 = y4 from hy4.symm]
            have q96 : (pj_fi G0 159 0).toInt = y5.toInt := by rw [show pj_fi G0 159 0 = y5 from hy5.symm]
            have q97 : (pj_fi G0 159 5).toInt = y6.toInt := by rw [show pj_fi G0 159 5 = y6 from hy6.symm]
            have q98 : (pj_fi G0 165 0).toInt = y7.toInt := by rw [show pj_fi G0 165 0 = y7 from hy7.symm]
            have q99 : (pj_fi G0 165 5).toInt = y8.toInt := by rw [show pj_fi G0 165 5 = y8 from hy8.symm]
            exact pj_X_rt rfl rfl ⟨_, rfl, rfl, ⟨by omega, by omega⟩, ⟨by omega, ⟨by omega, by omega⟩⟩⟩
          | false =>
            have ub91 := pj_u_neF b91
            refine pj_X_of (fun r h => pj_R_icF rfl b91 h) ?_
            refine pj_X_of (fun r h => pj_R_to (G0, 35, [(0, .ref 53), (1, .int i), (2, .ref 21)], [.ref 53], 0, 0) 35 2 (fun _ => rfl) h) ?_
            refine pj_X_of (fun r h => pj_T_gr hI rfl rfl rfl h) ?_
            refine pj_X_of (fun r h => pj_R_to (G0, 39, [(0, .ref 53), (1, .int i), (2, .ref 21)], [.int i, .ref 55], 0, 0) 39 2 (fun _ => rfl) h) ?_
            · refine pj_X_aa hI rfl rfl (k := 2) (by show _ = ((2 : Nat) : Int); omega) (by decide) rfl ?_
              refine pj_X_of (fun r h => pj_T_gi hI rfl rfl h) ?_
              show pj_X _ _ G0 43 [(0, .ref 53), (1, .int i), (2, .ref 21)] [.int (pj_fi G0 165 5)] _
              refine pj_X_eqi (show pj_fi G0 165 5 = y8 from hy8.symm) ?_
              refine pj_X_of (fun r h => pj_R_to (G0, 44, [(0, .ref 53), (1, .int i), (2, .ref 21)], [.ref 21, .int y8], 0, 0) 44 2 (fun _ => rfl) h) ?_
              refine pj_X_of (fun r h => pj_T_gi hI rfl rfl h) ?_
              show pj_X _ _ G0 47 [(0, .ref 53), (1, .int i), (2, .ref 21)] [.int (pj_fi G0 21 5), .int y8] _
              refine pj_X_eqi (show pj_fi G0 21 5 = y2 from hy2.symm) ?_
              cases b100 : pj_c1 .ne y8 y2 with
              | true =>
                have ub100 := pj_u_neT b100
                refine pj_X_of (fun r h => pj_R_icT 54 rfl rfl b100 h) ?_
                refine pj_X_of (fun r h => pj_R_to (G0, 55, [(0, .ref 53), (1, .int i), (2, .ref 21)], [.int (Int32.ofInt 0)], 0, 0) 55 2 (fun _ => rfl) h) ?_
                have q101 : (pj_fi G0 21 0).toInt = y1.toInt := by rw [show pj_fi G0 21 0 = y1 from hy1.symm]
                have q102 : (pj_fi G0 21 5).toInt = y2.toInt := by rw [show pj_fi G0 21 5 = y2 from hy2.symm]
                have q103 : (pj_fi G0 153 0).toInt = y3.toInt := by rw [show pj_fi G0 153 0 = y3 from hy3.symm]
                have q104 : (pj_fi G0 153 5).toInt = y4.toInt := by rw [show pj_fi G0 153 5 = y4 from hy4.symm]
                have q105 : (pj_fi G0 159 0).toInt = y5.toInt := by rw [show pj_fi G0 159 0 = y5 from hy5.symm]
                have q106 : (pj_fi G0 159 5).toInt = y6.toInt := by rw [show pj_fi G0 159 5 = y6 from hy6.symm]
                have q107 : (pj_fi G0 165 0).toInt = y7.toInt := by rw [show pj_fi G0 165 0 = y7 from hy7.symm]
                have q108 : (pj_fi G0 165 5).toInt = y8.toInt := by rw [show pj_fi G0 165 5 = y8 from hy8.symm]
                exact pj_X_rt rfl rfl ⟨_, rfl, rfl, ⟨by omega, by omega⟩, ⟨by omega, ⟨by omega, by omega⟩⟩⟩
              | false =>
                have ub100 := pj_u_neF b100
                refine pj_X_of (fun r h => pj_R_icF rfl b100 h) ?_
                refine pj_X_of (fun r h => pj_R_to (G0, 55, [(0, .ref 53), (1, .int i), (2, .ref 21)], [.int (Int32.ofInt 1)], 0, 0) 55 3 (fun _ => rfl) h) ?_
                have q109 : (pj_fi G0 21 0).toInt = y1.toInt := by rw [show pj_fi G0 21 0 = y1 from hy1.symm]
                have q110 : (pj_fi G0 21 5).toInt = y2.toInt := by rw [show pj_fi G0 21 5 = y2 from hy2.symm]
                have q111 : (pj_fi G0 153 0).toInt = y3.toInt := by rw [show pj_fi G0 153 0 = y3 from hy3.symm]
                have q112 : (pj_fi G0 153 5).toInt = y4.toInt := by rw [show pj_fi G0 153 5 = y4 from hy4.symm]
                have q113 : (pj_fi G0 159 0).toInt = y5.toInt := by rw [show pj_fi G0 159 0 = y5 from hy5.symm]
                have q114 : (pj_fi G0 159 5).toInt = y6.toInt := by rw [show pj_fi G0 159 5 = y6 from hy6.symm]
                have q115 : (pj_fi G0 165 0).toInt = y7.toInt := by rw [show pj_fi G0 165 0 = y7 from hy7.symm]
                have q116 : (pj_fi G0 165 5).toInt = y8.toInt := by rw [show pj_fi G0 165 5 = y8 from hy8.symm]
                exact pj_X_rt rfl rfl ⟨_, rfl, rfl, ⟨by omega, by omega⟩, ⟨by omega, ⟨by omega, by omega⟩⟩⟩
def kc_158n : pj_KT := ([(21, 0), (21, 5), (21, 7), (21, 8), (53, 2)], [21, 22, 23, 24, 25, 26, 53], [22, 23, 24, 25, 26])
theorem ct_158n (G0 : pj_G) (hI : pj_Inv G0) (i : Int32) : pj_Y 3 158 [.ref 1, .int i] G0 (fun v G' => ∃ y : Int32, v = some (.int y) ∧ pj_Inv G' ∧ pj_kpt kc_158n G0 G' ∧ ((0 : Int) ≤ y.toInt ∧ y.toInt ≤ 1) ∧ (((1 ≤ y.toInt → (0 ≤ i.toInt ∧ i.toInt ≤ 2 ∧ ¬ (pj_ai G0 56 i.toInt.toNat).toInt = 0 ∧ ((i.toInt = 0 → (pj_fi G0 153 0).toInt = (pj_fi G0 21 0).toInt ∧ (pj_fi G0 153 5).toInt = (pj_fi G0 21 5).toInt) ∧ (i.toInt = 1 → (pj_fi G0 159 0).toInt = (pj_fi G0 21 0).toInt ∧ (pj_fi G0 159 5).toInt = (pj_fi G0 21 5).toInt) ∧ (i.toInt = 2 → (pj_fi G0 165 0).toInt = (pj_fi G0 21 0).toInt ∧ (pj_fi G0 165 5).toInt = (pj_fi G0 21 5).toInt)))) ∧ (y.toInt = 0 → ¬ (0 ≤ i.toInt ∧ i.toInt ≤ 2 ∧ ¬ (pj_ai G0 56 i.toInt.toNat).toInt = 0 ∧ ((i.toInt = 0 → (pj_fi G0 153 0).toInt = (pj_fi G0 21 0).toInt ∧ (pj_fi G0 153 5).toInt = (pj_fi G0 21 5).toInt) ∧ (i.toInt = 1 → (pj_fi G0 159 0).toInt = (pj_fi G0 21 0).toInt ∧ (pj_fi G0 159 5).toInt = (pj_fi G0 21 5).toInt) ∧ (i.toInt = 2 → (pj_fi G0 165 0).toInt = (pj_fi G0 21 0).toInt ∧ (pj_fi G0 165 5).toInt = (pj_fi G0 21 5).toInt))))) ∧ mr_PC G0 G')) := by
  have c0_ : (Int32.ofInt 0).toInt = 0 := by decide
  have c1_ : (Int32.ofInt 1).toInt = 1 := by decide
  refine pj_Y_X (M := pj_m158) rfl rfl (Nat.le_of_ble_eq_true rfl) ?_
  have hK : pj_kpt kc_158n G0 G0 := pj_kpt_r _ _
  show pj_X _ _ G0 0 [(0, .ref 1), (1, .int i)] [] _
  obtain ⟨y1, hy1⟩ : ∃ z : Int32, z = pj_fi G0 21 0 := ⟨_, rfl⟩
  have ey1 : (pj_fi G0 21 0).toInt = y1.toInt := by rw [hy1]
  have ry1 : (0 : Int) ≤ y1.toInt ∧ y1.toInt ≤ 6 := by rw [hy1]; exact hI.2.1 21 0 (0, 6) rfl
  obtain ⟨y2, hy2⟩ : ∃ z : Int32, z = pj_fi G0 21 5 := ⟨_, rfl⟩
  have ey2 : (pj_fi G0 21 5).toInt = y2.toInt := by rw [hy2]
  have ry2 : (0 : Int) ≤ y2.toInt ∧ y2.toInt ≤ 6 := by rw [hy2]; exact hI.2.1 21 5 (0, 6) rfl
  obtain ⟨y3, hy3⟩ : ∃ z : Int32, z = pj_fi G0 153 0 := ⟨_, rfl⟩
  have ey3 : (pj_fi G0 153 0).toInt = y3.toInt := by rw [hy3]
  have ry3 : (0 : Int) ≤ y3.toInt ∧ y3.toInt ≤ 6 := by rw [hy3]; exact hI.2.1 153 0 (0, 6) rfl
  obtain ⟨y4, hy4⟩ : ∃ z : Int32, z = pj_fi G0 153 5 := ⟨_, rfl⟩
  have ey4 : (pj_fi G0 153 5).toInt = y4.toInt := by rw [hy4]
  have ry4 : (0 : Int) ≤ y4.toInt ∧ y4.toInt ≤ 6 := by rw [hy4]; exact hI.2.1 153 5 (0, 6) rfl
  obtain ⟨y5, hy5⟩ : ∃ z : Int32, z = pj_fi G0 159 0 := ⟨_, rfl⟩
  have ey5 : (pj_fi G0 159 0).toInt = y5.toInt := by rw [hy5]
  have ry5 : (0 : Int) ≤ y5.toInt ∧ y5.toInt ≤ 6 := by rw [hy5]; exact hI.2.1 159 0 (0, 6) rfl
  obtain ⟨y6, hy6⟩ : ∃ z : Int32, z = pj_fi G0 159 5 := ⟨_, rfl⟩
  have ey6 : (pj_fi G0 159 5).toInt = y6.toInt := by rw [hy6]
  have ry6 : (0 : Int) ≤ y6.toInt ∧ y6.toInt ≤ 6 := by rw [hy6]; exact hI.2.1 159 5 (0, 6) rfl
  obtain ⟨y7, hy7⟩ : ∃ z : Int32, z = pj_fi G0 165 0 := ⟨_, rfl⟩
  have ey7 : (pj_fi G0 165 0).toInt = y7.toInt := by rw [hy7]
  have ry7 : (0 : Int) ≤ y7.toInt ∧ y7.toInt ≤ 6 := by rw [hy7]; exact hI.2.1 165 0 (0, 6) rfl
  obtain ⟨y8, hy8⟩ : ∃ z : Int32, z = pj_fi G0 165 5 := ⟨_, rfl⟩
  have ey8 : (pj_fi G0 165 5).toInt = y8.toInt := by rw [hy8]
  have ry8 : (0 : Int) ≤ y8.toInt ∧ y8.toInt ≤ 6 := by rw [hy8]; exact hI.2.1 165 5 (0, 6) rfl
  obtain ⟨y9, hy9⟩ : ∃ z : Int32, z = pj_fi G0 53 2 := ⟨_, rfl⟩
  have ey9 : (pj_fi G0 53 2).toInt = y9.toInt := by rw [hy9]
  have ry9 : (0 : Int) ≤ y9.toInt ∧ y9.toInt ≤ 15 := by rw [hy9]; exact hI.2.1 53 2 (0, 15) rfl
  refine pj_X_of (fun r h => pj_R_to (G0, 1, [(0, .ref 1), (1, .int i)], [.ref 1], 0, 0) 1 2 (fun _ => rfl) h) ?_
  refine pj_X_of (fun r h => pj_T_gr hI rfl rfl rfl h) ?_
  refine pj_X_of (fun r h => pj_R_to (G0, 6, [(0, .ref 1), (1, .int i)], [.ref 1, .int i, .ref 53], 0, 0) 6 3 (fun _ => rfl) h) ?_
  refine pj_X_of (fun r h => pj_T_gr hI rfl rfl rfl h) ?_
  refine pj_X_of (fun r h => pj_T_gr hI rfl rfl rfl h) ?_
  have q10 : (pj_fi G0 21 0).toInt = y1.toInt := by rw [show pj_fi G0 21 0 = y1 from hy1.symm]
  have q11 : (pj_fi G0 21 5).toInt = y2.toInt := by rw [show pj_fi G0 21 5 = y2 from hy2.symm]
  have q12 : (pj_fi G0 153 0).toInt = y3.toInt := by rw [show pj_fi G0 153 0 = y3 from hy3.symm]
  have q13 : (pj_fi G0 153 5).toInt = y4.toInt := by rw [show pj_fi G0 153 5 = y4 from hy4.symm]
  have q14 : (pj_fi G0 159 0).toInt = y5.toInt := by rw [show pj_fi G0 159 0 = y5 from hy5.symm]
  have q15 : (pj_fi G0 159 5).toInt = y6.toInt := by rw [show pj_fi G0 159 5 = y6 from hy6.symm]
  have q16 : (pj_fi G0 165 0).toInt = y7.toInt := by rw [show pj_fi G0 165 0 = y7 from hy7.symm]
  have q17 : (pj_fi G0 165 5).toInt = y8.toInt := by rw [show pj_fi G0 165 5 = y8 from hy8.symm]
  have q18 : (pj_fi G0 53 2).toInt = y9.toInt := by rw [show pj_fi G0 53 2 = y9 from hy9.symm]
  refine pj_X_ca (vs := [.ref 53, .int i, .ref 21]) rfl (fun _ => rfl) ⟨Nat.le_of_ble_eq_true rfl, Nat.le_of_ble_eq_true rfl, pj_T_rcv hI rfl⟩ ⟨rfl, rfl⟩ (pj_Y_up (by decide) (ct_39nk G0 hI i)) ?_
  rintro _ _ ⟨y19, rfl, rfl, ry19, ey19⟩
  show pj_X _ _ G0 15 [(0, .ref 1), (1, .int i)] [.int y19] _
  cases b20 : pj_c1 .ne y19 0 with
  | true =>
    have ub20 := pj_u0_neT b20
    refine pj_X_of (fun r h => pj_R_ifT 20 rfl rfl b20 h) ?_
    refine pj_X_of (fun r h => pj_R_to (G0, 21, [(0, .ref 1), (1, .int i)], [.ref 1], 0, 0) 21 2 (fun _ => rfl) h) ?_
    refine pj_X_of (fun r h => pj_T_gr hI rfl rfl rfl h) ?_
    refine pj_X_of (fun r h => pj_T_gr hI rfl rfl rfl h) ?_
    refine pj_X_of (fun r h => pj_R_to (G0, 28, [(0, .ref 1), (1, .int i)], [.ref 1, .ref 21], 0, 0) 28 2 (fun _ => rfl) h) ?_
    refine pj_X_of (fun r h => pj_T_gr hI rfl rfl rfl h) ?_
    refine pj_X_of (fun r h => pj_T_gr hI rfl rfl rfl h) ?_
    refine pj_X_of (fun r h => pj_R_to (G0, 35, [(0, .ref 1), (1, .int i)], [.int i, .ref 55, .ref 21], 0, 0) 35 2 (fun _ => rfl) h) ?_
    by_cases t21 : i.toInt = 0
    · refine pj_X_aa hI rfl rfl (k := 0) (by show _ = ((0 : Nat) : Int); omega) (by decide) rfl ?_
      have q22 : (pj_fi G0 21 0).toInt = y1.toInt := by rw [show pj_fi G0 21 0 = y1 from hy1.symm]
      have q23 : (pj_fi G0 21 5).toInt = y2.toInt := by rw [show pj_fi G0 21 5 = y2 from hy2.symm]
      have q24 : (pj_fi G0 153 0).toInt = y3.toInt := by rw [show pj_fi G0 153 0 = y3 from hy3.symm]
      have q25 : (pj_fi G0 153 5).toInt = y4.toInt := by rw [show pj_fi G0 153 5 = y4 from hy4.symm]
      have q26 : (pj_fi G0 159 0).toInt = y5.toInt := by rw [show pj_fi G0 159 0 = y5 from hy5.symm]
      have q27 : (pj_fi G0 159 5).toInt = y6.toInt := by rw [show pj_fi G0 159 5 = y6 from hy6.symm]
      have q28 : (pj_fi G0 165 0).toInt = y7.toInt := by rw [show pj_fi G0 165 0 = y7 from hy7.symm]
      have q29 : (pj_fi G0 165 5).toInt = y8.toInt := by rw [show pj_fi G0 165 5 = y8 from hy8.symm]
      have q30 : (pj_fi G0 53 2).toInt = y9.toInt := by rw [show pj_fi G0 53 2 = y9 from hy9.symm]
      refine pj_X_ca (vs := [.ref 21, .ref 153]) rfl (fun _ => rfl) ⟨Nat.le_of_ble_eq_true rfl, Nat.le_of_ble_eq_true rfl, pj_T_rcv hI rfl⟩ ⟨rfl, rfl⟩ (pj_Y_up (by decide) (ct_68_21_153x G0 hI)) ?_
      rintro _ G32 ⟨rfl, iG32, jG32, eG32, fy31⟩
      replace eG32 := eG32 _ rfl
      have kG32 : pj_kpt kc_158n G0 G32 := pj_kpt_t hK (pj_kpt_s jG32 rfl)
      have q33 : (pj_fi G32 153 0).toInt = (pj_fi G0 153 0).toInt := by rw [jG32.1 (153, 0) (by decide)]
      have q34 : (pj_fi G32 153 5).toInt = (pj_fi G0 153 5).toInt := by rw [jG32.1 (153, 5) (by decide)]
      have q35 : (pj_fi G32 159 0).toInt = (pj_fi G0 159 0).toInt := by rw [jG32.1 (159, 0) (by decide)]
      have q36 : (pj_fi G32 159 5).toInt = (pj_fi G0 159 5).toInt := by rw [jG32.1 (159, 5) (by decide)]
      have q37 : (pj_fi G32 165 0).toInt = (pj_fi G0 165 0).toInt := by rw [jG32.1 (165, 0) (by decide)]
      have q38 : (pj_fi G32 165 5).toInt = (pj_fi G0 165 5).toInt := by rw [jG32.1 (165, 5) (by decide)]
      have q39 : (pj_fi G32 53 2).toInt = (pj_fi G0 53 2).toInt := by rw [jG32.1 (53, 2) (by decide)]
      obtain ⟨y40, hy40⟩ : ∃ z : Int32, z = pj_fi G32 21 0 := ⟨_, rfl⟩
      have ey40 : (pj_fi G32 21 0).toInt = y40.toInt := by rw [hy40]
      have ry40 : (0 : Int) ≤ y40.toInt ∧ y40.toInt ≤ 6 := by rw [hy40]; exact iG32.2.1 21 0 (0, 6) rfl
      obtain ⟨y41, hy41⟩ : ∃ z : Int32, z = pj_fi G32 21 5 := ⟨_, rfl⟩
      have ey41 : (pj_fi G32 21 5).toInt = y41.toInt := by rw [hy41]
      have ry41 : (0 : Int) ≤ y41.toInt ∧ y41.toInt ≤ 6 := by rw [hy41]; exact iG32.2.1 21 5 (0, 6) rfl
      obtain ⟨y42, hy42⟩ : ∃ z : Int32, z = pj_fi G32 153 0 := ⟨_, rfl⟩
      have ey42 : (pj_fi G32 153 0).toInt = y42.toInt := by rw [hy42]
      have ry42 : (0 : Int) ≤ y42.toInt ∧ y42.toInt ≤ 6 := by rw [hy42]; exact iG32.2.1 153 0 (0, 6) rfl
      obtain ⟨y43, hy43⟩ : ∃ z : Int32, z = pj_fi G32 153 5 := ⟨_, rfl⟩
      have ey43 : (pj_fi G32 153 5).toInt = y43.toInt := by rw [hy43]
      have ry43 : (0 : Int) ≤ y43.toInt ∧ y43.toInt ≤ 6 := by rw [hy43]; exact iG32.2.1 153 5 (0, 6) rfl
      obtain ⟨y44, hy44⟩ : ∃ z : Int32, z = pj_fi G32 159 0 := ⟨_, rfl⟩
      have ey44 : (pj_fi G32 159 0).toInt = y44.toInt := by rw [hy44]
      have ry44 : (0 : Int) ≤ y44.toInt ∧ y44.toInt ≤ 6 := by rw [hy44]; exact iG32.2.1 159 0 (0, 6) rfl
      obtain ⟨y45, hy45⟩ : ∃ z : Int32, z = pj_fi G32 159 5 := ⟨_, rfl⟩
      have ey45 : (pj_fi G32 159 5).toInt = y45.toInt := by rw [hy45]
      have ry45 : (0 : Int) ≤ y45.toInt ∧ y45.toInt ≤ 6 := by rw [hy45]; exact iG32.2.1 159 5 (0, 6) rfl
      obtain ⟨y46, hy46⟩ : ∃ z : Int32, z = pj_fi G32 165 0 := ⟨_, rfl⟩
      have ey46 : (pj_fi G32 165 0).toInt = y46.toInt := by rw [hy46]
      have ry46 : (0 : Int) ≤ y46.toInt ∧ y46.toInt ≤ 6 := by rw [hy46]; exact iG32.2.1 165 0 (0, 6) rfl
      obtain ⟨y47, hy47⟩ : ∃ z : Int32, z = pj_fi G32 165 5 := ⟨_, rfl⟩
      have ey47 : (pj_fi G32 165 5).toInt = y47.toInt := by rw [hy47]
      have ry47 : (0 : Int) ≤ y47.toInt ∧ y47.toInt ≤ 6 := by rw [hy47]; exact iG32.2.1 165 5 (0, 6) rfl
      obtain ⟨y48, hy48⟩ : ∃ z : Int32, z = pj_fi G32 53 2 := ⟨_, rfl⟩
      have ey48 : (pj_fi G32 53 2).toInt = y48.toInt := by rw [hy48]
      have ry48 : (0 : Int) ≤ y48.toInt ∧ y48.toInt ≤ 15 := by rw [hy48]; exact iG32.2.1 53 2 (0, 15) rfl
      show pj_X _ _ G32 39 [(0, .ref 1), (1, .int i)] [] _
      refine pj_X_of (fun r h => pj_R_to (G32, 40, [(0, .ref 1), (1, .int i)], [.ref 1], 0, 0) 40 2 (fun _ => rfl) h) ?_
      refine pj_X_of (fun r h => pj_T_gr iG32 rfl rfl rfl h) ?_
      have q49 : (pj_fi G32 21 0).toInt = y40.toInt := by rw [show pj_fi G32 21 0 = y40 from hy40.symm]
      have q50 : (pj_fi G32 21 5).toInt = y41.toInt := by rw [show pj_fi G32 21 5 = y41 from hy41.symm]
      have q51 : (pj_fi G32 153 0).toInt = y42.toInt := by rw [show pj_fi G32 153 0 = y42 from hy42.symm]
      have q52 : (pj_fi G32 153 5).toInt = y43.toInt := by rw [show pj_fi G32 153 5 = y43 from hy43.symm]
      have q53 : (pj_fi G32 159 0).toInt = y44.toInt := by rw [show pj_fi G32 159 0 = y44 from hy44.symm]
      have q54 : (pj_fi G32 159 5).toInt = y45.toInt := by rw [show pj_fi G32 159 5 = y45 from hy45.symm]
      have q55 : (pj_fi G32 165 0).toInt = y46.toInt := by rw [show pj_fi G32 165 0 = y46 from hy46.symm]
      have q56 : (pj_fi G32 165 5).toInt = y47.toInt := by rw [show pj_fi G32 165 5 = y47 from hy47.symm]
      have q57 : (pj_fi G32 53 2).toInt = y48.toInt := by rw [show pj_fi G32 53 2 = y48 from hy48.symm]
      refine pj_X_ca (vs := [.ref 53]) rfl (fun _ => rfl) ⟨Nat.le_of_ble_eq_true rfl, Nat.le_of_ble_eq_true rfl, pj_T_rcv iG32 rfl⟩ ⟨rfl, rfl⟩ (pj_Y_up (by decide) (ct_36n G32 iG32)) ?_
      rintro _ G59 ⟨rfl, iG59, jG59, eG59⟩
      have kG59 : pj_kpt kc_158n G0 G59 := pj_kpt_t kG32 (pj_kpt_s jG59 rfl)
      have q60 : (pj_fi G59 21 0).toInt = (pj_fi G32 21 0).toInt := by rw [jG59.1 (21, 0) (by decide)]
      have q61 : (pj_fi G59 21 5).toInt = (pj_fi G32 21 5).toInt := by rw [jG59.1 (21, 5) (by decide)]
      have q62 : (pj_fi G59 153 0).toInt = (pj_fi G32 153 0).toInt := by rw [jG59.1 (153, 0) (by decide)]
      have q63 : (pj_fi G59 153 5).toInt = (pj_fi G32 153 5).toInt := by rw [jG59.1 (153, 5) (by decide)]
      have q64 : (pj_fi G59 159 0).toInt = (pj_fi G32 159 0).toInt := by rw [jG59.1 (159, 0) (by decide)]
      have q65 : (pj_fi G59 159 5).toInt = (pj_fi G32 159 5).toInt := by rw [jG59.1 (159, 5) (by decide)]
      have q66 : (pj_fi G59 165 0).toInt = (pj_fi G32 165 0).toInt := by rw [jG59.1 (165, 0) (by decide)]
      have q67 : (pj_fi G59 165 5).toInt = (pj_fi G32 165 5).toInt := by rw [jG59.1 (165, 5) (by decide)]
      obtain ⟨y68, hy68⟩ : ∃ z : Int32, z = pj_fi G59 21 0 := ⟨_, rfl⟩
      have ey68 : (pj_fi G59 21 0).toInt = y68.toInt := by rw [hy68]
      have ry68 : (0 : Int) ≤ y68.toInt ∧ y68.toInt ≤ 6 := by rw [hy68]; exact iG59.2.1 21 0 (0, 6) rfl
      obtain ⟨y69, hy69⟩ : ∃ z : Int32, z = pj_fi G59 21 5 := ⟨_, rfl⟩
      have ey69 : (pj_fi G59 21 5).toInt = y69.toInt := by rw [hy69]
      have ry69 : (0 : Int) ≤ y69.toInt ∧ y69.toInt ≤ 6 := by rw [hy69]; exact iG59.2.1 21 5 (0, 6) rfl
      obtain ⟨y70, hy70⟩ : ∃ z : Int32, z = pj_fi G59 153 0 := ⟨_, rfl⟩
      have ey70 : (pj_fi G59 153 0).toInt = y70.toInt := by rw [hy70]
      have ry70 : (0 : Int) ≤ y70.toInt ∧ y70.toInt ≤ 6 := by rw [hy70]; exact iG59.2.1 153 0 (0, 6) rfl
      obtain ⟨y71, hy71⟩ : ∃ z : Int32, z = pj_fi G59 153 5 := ⟨_, rfl⟩
      have ey71 : (pj_fi G59 153 5).toInt = y71.toInt := by rw [hy71]
      have ry71 : (0 : Int) ≤ y71.toInt ∧ y71.toInt ≤ 6 := by rw [hy71]; exact iG59.2.1 153 5 (0, 6) rfl
      obtain ⟨y72, hy72⟩ : ∃ z : Int32, z = pj_fi G59 159 0 := ⟨_, rfl⟩
      have ey72 : (pj_fi G59 159 0).toInt = y72.toInt := by rw [hy72]
      have ry72 : (0 : Int) ≤ y72.toInt ∧ y72.toInt ≤ 6 := by rw [hy72]; exact iG59.2.1 159 0 (0, 6) rfl
      obtain ⟨y73, hy73⟩ : ∃ z : Int32, z = pj_fi G59 159 5 := ⟨_, rfl⟩
      have ey73 : (pj_fi G59 159 5).toInt = y73.toInt := by rw [hy73]
      have ry73 : (0 : Int) ≤ y73.toInt ∧ y73.toInt ≤ 6 := by rw [hy73]; exact iG59.2.1 159 5 (0, 6) rfl
      obtain ⟨y74, hy74⟩ : ∃ z : Int32, z = pj_fi G59 165 0 := ⟨_, rfl⟩
      have ey74 : (pj_fi G59 165 0).toInt = y74.toInt := by rw [hy74]
      have ry74 : (0 : Int) ≤ y74.toInt ∧ y74.toInt ≤ 6 := by rw [hy74]; exact iG59.2.1 165 0 (0, 6) rfl
      obtain ⟨y75, hy75⟩ : ∃ z : Int32, z = pj_fi G59 165 5 := ⟨_, rfl⟩
      have ey75 : (pj_fi G59 165 5).toInt = y75.toInt := by rw [hy75]
      have ry75 : (0 : Int) ≤ y75.toInt ∧ y75.toInt ≤ 6 := by rw [hy75]; exact iG59.2.1 165 5 (0, 6) rfl
      obtain ⟨y76, hy76⟩ : ∃ z : Int32, z = pj_fi G59 53 2 := ⟨_, rfl⟩
      have ey76 : (pj_fi G59 53 2).toInt = y76.toInt := by rw [hy76]
      have ry76 : (0 : Int) ≤ y76.toInt ∧ y76.toInt ≤ 15 := by rw [hy76]; exact iG59.2.1 53 2 (0, 15) rfl
      show pj_X _ _ G59 46 [(0, .ref 1), (1, .int i)] [] _
      refine pj_X_of (fun r h => pj_R_to (G59, 47, [(0, .ref 1), (1, .int i)], [.int (Int32.ofInt 1)], 0, 0) 47 2 (fun _ => rfl) h) ?_
      have q77 : (pj_fi G59 21 0).toInt = y68.toInt := by rw [show pj_fi G59 21 0 = y68 from hy68.symm]
      have q78 : (pj_fi G59 21 5).toInt = y69.toInt := by rw [show pj_fi G59 21 5 = y69 from hy69.symm]
      have q79 : (pj_fi G59 153 0).toInt = y70.toInt := by rw [show pj_fi G59 153 0 = y70 from hy70.symm]
      have q80 : (pj_fi G59 153 5).toInt = y71.toInt := by rw [show pj_fi G59 153 5 = y71 from hy71.symm]
      have q81 : (pj_fi G59 159 0).toInt = y72.toInt := by rw [show pj_fi G59 159 0 = y72 from hy72.symm]
      have q82 : (pj_fi G59 159 5).toInt = y73.toInt := by rw [show pj_fi G59 159 5 = y73 from hy73.symm]
      have q83 : (pj_fi G59 165 0).toInt = y74.toInt := by rw [show pj_fi G59 165 0 = y74 from hy74.symm]
      have q84 : (pj_fi G59 165 5).toInt = y75.toInt := by rw [show pj_fi G59 165 5 = y75 from hy75.symm]
      have q85 : (pj_fi G59 53 2).toInt = y76.toInt := by rw [show pj_fi G59 53 2 = y76 from hy76.symm]
      exact pj_X_rt rfl rfl ⟨_, rfl, iG59, kG59, ⟨by omega, by omega⟩, ⟨⟨fun _ => ey19.2.1 (by omega), fun hz => absurd hz (by omega)⟩, mr_PC_z (by omega) (by omega) (by omega)⟩⟩
    by_cases t86 : i.toInt = 1
    · refine pj_X_aa hI rfl rfl (k := 1) (by show _ = ((1 : Nat) : Int); omega) (by decide) rfl ?_
      have q87 : (pj_fi G0 21 0).toInt = y1.toInt := by rw [show pj_fi G0 21 0 = y1 from hy1.symm]
      have q88 : (pj_fi G0 21 5).toInt = y2.toInt := by rw [show pj_fi G0 21 5 = y2 from hy2.symm]
      have q89 : (pj_fi G0 153 0).toInt = y3.toInt := by rw [show pj_fi G0 153 0 = y3 from hy3.symm]
      have q90 : (pj_fi G0 153 5).toInt = y4.toInt := by rw [show pj_fi G0 153 5 = y4 from hy4.symm]
      have q91 : (pj_fi G0 159 0).toInt = y5.toInt := by rw [show pj_fi G0 159 0 = y5 from hy5.symm]
      have q92 : (pj_fi G0 159 5).toInt = y6.toInt := by rw [show pj_fi G0 159 5 = y6 from hy6.symm]
      have q93 : (pj_fi G0 165 0).toInt = y7.toInt := by rw [show pj_fi G0 165 0 = y7 from hy7.symm]
      have q94 : (pj_fi G0 165 5).toInt = y8.toInt := by rw [show pj_fi G0 165 5 = y8 from hy8.symm]
      have q95 : (pj_fi G0 53 2).toInt = y9.toInt := by rw [show pj_fi G0 53 2 = y9 from hy9.symm]
      refine pj_X_ca (vs := [.ref 21, .ref 159]) rfl (fun _ => rfl) ⟨Nat.le_of_ble_eq_true rfl, Nat.le_of_ble_eq_true rfl, pj_T_rcv hI rfl⟩ ⟨rfl, rfl⟩ (pj_Y_up (by decide) (ct_68_21_159x G0 hI)) ?_
      rintro _ G97 ⟨rfl, iG97, jG97, eG97, fy96⟩
      replace eG97 := eG97 _ rfl
      have kG97 : pj_kpt kc_158n G0 G97 := pj_kpt_t hK (pj_kpt_s jG97 rfl)
      have q98 : (pj_fi G97 153 0).toInt = (pj_fi G0 153 0).toInt := by rw [jG97.1 (153, 0) (by decide)]
      have q99 : (pj_fi G97 153 5).toInt = (pj_fi G0 153 5).toInt := by rw [jG97.1 (153, 5) (by decide)]
      have q100 : (pj_fi G97 159 0).toInt = (pj_fi G0 159 0).toInt := by rw [jG97.1 (159, 0) (by decide)]
      have q101 : (pj_fi G97 159 5).toInt = (pj_fi G0 159 5).toInt := by rw [jG97.1 (159, 5) (by decide)]
      have q102 : (pj_fi G97 165 0).toInt = (pj_fi G0 165 0).toInt := by rw [jG97.1 (165, 0) (by decide)]
      have q103 : (pj_fi G97 165 5).toInt = (pj_fi G0 165 5).toInt := by rw [jG97.1 (165, 5) (by decide)]
      have q104 : (pj_fi G97 53 2).toInt = (pj_fi G0 53 2).toInt := by rw [jG97.1 (53, 2) (by decide)]
      obtain ⟨y105, hy105⟩ : ∃ z : Int32, z = pj_fi G97 21 0 := ⟨_, rfl⟩
      have ey105 : (pj_fi G97 21 0).toInt = y105.toInt := by rw [hy105]
      have ry105 : (0 : Int) ≤ y105.toInt ∧ y105.toInt ≤ 6 := by rw [hy105]; exact iG97.2.1 21 0 (0, 6) rfl
      obtain ⟨y106, hy106⟩ : ∃ z : Int32, z = pj_fi G97 21 5 := ⟨_, rfl⟩
      have ey106 : (pj_fi G97 21 5).toInt = y106.toInt := by rw [hy106]
      have ry106 : (0 : Int) ≤ y106.toInt ∧ y106.toInt ≤ 6 := by rw [hy106]; exact iG97.2.1 21 5 (0, 6) rfl
      obtain ⟨y107, hy107⟩ : ∃ z : Int32, z = pj_fi G97 153 0 := ⟨_, rfl⟩
      have ey107 : (pj_fi G97 153 0).toInt = y107.toInt := by rw [hy107]
      have ry107 : (0 : Int) ≤ y107.toInt ∧ y107.toInt ≤ 6 := by rw [hy107]; exact iG97.2.1 153 0 (0, 6) rfl
      obtain ⟨y108, hy108⟩ : ∃ z : Int32, z = pj_fi G97 153 5 := ⟨_, rfl⟩
      have ey108 : (pj_fi G97 153 5).toInt = y108.toInt := by rw [hy108]
      have ry108 : (0 : Int) ≤ y108.toInt ∧ y108.toInt ≤ 6 := by rw [hy108]; exact iG97.2.1 153 5 (0, 6) rfl
      obtain ⟨y109, hy109⟩ : ∃ z : Int32, z = pj_fi G97 159 0 := ⟨_, rfl⟩
      have ey109 : (pj_fi G97 159 0).toInt = y109.toInt := by rw [hy109]
      have ry109 : (0 : Int) ≤ y109.toInt ∧ y109.toInt ≤ 6 := by rw [hy109]; exact iG97.2.1 159 0 (0, 6) rfl
      obtain ⟨y110, hy110⟩ : ∃ z : Int32, z = pj_fi G97 159 5 := ⟨_, rfl⟩
      have ey110 : (pj_fi G97 159 5).toInt = y110.toInt := by rw [hy110]
      have ry110 : (0 : Int) ≤ y110.toInt ∧ y110.toInt ≤ 6 := by rw [hy110]; exact iG97.2.1 159 5 (0, 6) rfl
      obtain ⟨y111, hy111⟩ : ∃ z : Int32, z = pj_fi G97 165 0 := ⟨_, rfl⟩
      have ey111 : (pj_fi G97 165 0).toInt = y111.toInt := by rw [hy111]
      have ry111 : (0 : Int) ≤ y111.toInt ∧ y111.toInt ≤ 6 := by rw [hy111]; exact iG97.2.1 165 0 (0, 6) rfl
      obtain ⟨y112, hy112⟩ : ∃ z : Int32, z = pj_fi G97 165 5 := ⟨_, rfl⟩
      have ey112 : (pj_fi G97 165 5).toInt = y112.toInt := by rw [hy112]
      have ry112 : (0 : Int) ≤ y112.toInt ∧ y112.toInt ≤ 6 := by rw [hy112]; exact iG97.2.1 165 5 (0, 6) rfl
      obtain ⟨y113, hy113⟩ : ∃ z : Int32, z = pj_fi G97 53 2 := ⟨_, rfl⟩
      have ey113 : (pj_fi G97 53 2).toInt = y113.toInt := by rw [hy113]
      have ry113 : (0 : Int) ≤ y113.toInt ∧ y113.toInt ≤ 15 := by rw [hy113]; exact iG97.2.1 53 2 (0, 15) rfl
      show pj_X _ _ G97 39 [(0, .ref 1), (1, .int i)] [] _
      refine pj_X_of (fun r h => pj_R_to (G97, 40, [(0, .ref 1), (1, .int i)], [.ref 1], 0, 0) 40 2 (fun _ => rfl) h) ?_
      refine pj_X_of (fun r h => pj_T_gr iG97 rfl rfl rfl h) ?_
      have q114 : (pj_fi G97 21 0).toInt = y105.toInt := by rw [show pj_fi G97 21 0 = y105 from hy105.symm]
      have q115 : (pj_fi G97 21 5).toInt = y106.toInt := by rw [show pj_fi G97 21 5 = y106 from hy106.symm]
      have q116 : (pj_fi G97 153 0).toInt = y107.toInt := by rw [show pj_fi G97 153 0 = y107 from hy107.symm]
      have q117 : (pj_fi G97 153 5).toInt = y108.toInt := by rw [show pj_fi G97 153 5 = y108 from hy108.symm]
      have q118 : (pj_fi G97 159 0).toInt = y109.toInt := by rw [show pj_fi G97 159 0 = y109 from hy109.symm]
      have q119 : (pj_fi G97 159 5).toInt = y110.toInt := by rw [show pj_fi G97 159 5 = y110 from hy110.symm]
      have q120 : (pj_fi G97 165 0).toInt = y111.toInt := by rw [show pj_fi G97 165 0 = y111 from hy111.symm]
      have q121 : (pj_fi G97 165 5).toInt = y112.toInt := by rw [show pj_fi G97 165 5 = y112 from hy112.symm]
      have q122 : (pj_fi G97 53 2).toInt = y113.toInt := by rw [show pj_fi G97 53 2 = y113 from hy113.symm]
      refine pj_X_ca (vs := [.ref 53]) rfl (fun _ => rfl) ⟨Nat.le_of_ble_eq_true rfl, Nat.le_of_ble_eq_true rfl, pj_T_rcv iG97 rfl⟩ ⟨rfl, rfl⟩ (pj_Y_up (by decide) (ct_36n G97 iG97)) ?_
      rintro _ G124 ⟨rfl, iG124, jG124, eG124⟩
      have kG124 : pj_kpt kc_158n G0 G124 := pj_kpt_t kG97 (pj_kpt_s jG124 rfl)
      have q125 : (pj_fi G124 21 0).toInt = (pj_fi G97 21 0).toInt := by rw [jG124.1 (21, 0) (by decide)]
      have q126 : (pj_fi G124 21 5).toInt = (pj_fi G97 21 5).toInt := by rw [jG124.1 (21, 5) (by decide)]
      have q127 : (pj_fi G124 153 0).toInt = (pj_fi G97 153 0).toInt := by rw [jG124.1 (153, 0) (by decide)]
      have q128 : (pj_fi G124 153 5).toInt = (pj_fi G97 153 5).toInt := by rw [jG124.1 (153, 5) (by decide)]
      have q129 : (pj_fi G124 159 0).toInt = (pj_fi G97 159 0).toInt := by rw [jG124.1 (159, 0) (by decide)]
      have q130 : (pj_fi G124 159 5).toInt = (pj_fi G97 159 5).toInt := by rw [jG124.1 (159, 5) (by decide)]
      have q131 : (pj_fi G124 165 0).toInt = (pj_fi G97 165 0).toInt := by rw [jG124.1 (165, 0) (by decide)]
      have q132 : (pj_fi G124 165 5).toInt = (pj_fi G97 165 5).toInt := by rw [jG124.1 (165, 5) (by decide)]
      obtain ⟨y133, hy133⟩ : ∃ z : Int32, z = pj_fi G124 21 0 := ⟨_, rfl⟩
      have ey133 : (pj_fi G124 21 0).toInt = y133.toInt := by rw [hy133]
      have ry133 : (0 : Int) ≤ y133.toInt ∧ y133.toInt ≤ 6 := by rw [hy133]; exact iG124.2.1 21 0 (0, 6) rfl
      obtain ⟨y134, hy134⟩ : ∃ z : Int32, z = pj_fi G124 21 5 := ⟨_, rfl⟩
      have ey134 : (pj_fi G124 21 5).toInt = y134.toInt := by rw [hy134]
      have ry134 : (0 : Int) ≤ y134.toInt ∧ y134.toInt ≤ 6 := by rw [hy134]; exact iG124.2.1 21 5 (0, 6) rfl
      obtain ⟨y135, hy135⟩ : ∃ z : Int32, z = pj_fi G124 153 0 := ⟨_, rfl⟩
      have ey135 : (pj_fi G124 153 0).toInt = y135.toInt := by rw [hy135]
      have ry135 : (0 : Int) ≤ y135.toInt ∧ y135.toInt ≤ 6 := by rw [hy135]; exact iG124.2.1 153 0 (0, 6) rfl
      obtain ⟨y136, hy136⟩ : ∃ z : Int32, z = pj_fi G124 153 5 := ⟨_, rfl⟩
      have ey136 : (pj_fi G124 153 5).toInt = y136.toInt := by rw [hy136]
      have ry136 : (0 : Int) ≤ y136.toInt ∧ y136.toInt ≤ 6 := by rw [hy136]; exact iG124.2.1 153 5 (0, 6) rfl
      obtain ⟨y137, hy137⟩ : ∃ z : Int32, z = pj_fi G124 159 0 := ⟨_, rfl⟩
      have ey137 : (pj_fi G124 159 0).toInt = y137.toInt := by rw [hy137]
      have ry137 : (0 : Int) ≤ y137.toInt ∧ y137.toInt ≤ 6 := by rw [hy137]; exact iG124.2.1 159 0 (0, 6) rfl
      obtain ⟨y138, hy138⟩ : ∃ z : Int32, z = pj_fi G124 159 5 := ⟨_, rfl⟩
      have ey138 : (pj_fi G124 159 5).toInt = y138.toInt := by rw [hy138]
      have ry138 : (0 : Int) ≤ y138.toInt ∧ y138.toInt ≤ 6 := by rw [hy138]; exact iG124.2.1 159 5 (0, 6) rfl
      obtain ⟨y139, hy139⟩ : ∃ z : Int32, z = pj_fi G124 165 0 := ⟨_, rfl⟩
      have ey139 : (pj_fi G124 165 0).toInt = y139.toInt := by rw [hy139]
      have ry139 : (0 : Int) ≤ y139.toInt ∧ y139.toInt ≤ 6 := by rw [hy139]; exact iG124.2.1 165 0 (0, 6) rfl
      obtain ⟨y140, hy140⟩ : ∃ z : Int32, z = pj_fi G124 165 5 := ⟨_, rfl⟩
      have ey140 : (pj_fi G124 165 5).toInt = y140.toInt := by rw [hy140]
      have ry140 : (0 : Int) ≤ y140.toInt ∧ y140.toInt ≤ 6 := by rw [hy140]; exact iG124.2.1 165 5 (0, 6) rfl
      obtain ⟨y141, hy141⟩ : ∃ z : Int32, z = pj_fi G124 53 2 := ⟨_, rfl⟩
      have ey141 : (pj_fi G124 53 2).toInt = y141.toInt := by rw [hy141]
      have ry141 : (0 : Int) ≤ y141.toInt ∧ y141.toInt ≤ 15 := by rw [hy141]; exact iG124.2.1 53 2 (0, 15) rfl
      show pj_X _ _ G124 46 [(0, .ref 1), (1, .int i)] [] _
      refine pj_X_of (fun r h => pj_R_to (G124, 47, [(0, .ref 1), (1, .int i)], [.int (Int32.ofInt 1)], 0, 0) 47 2 (fun _ => rfl) h) ?_
      have q142 : (pj_fi G124 21 0).toInt = y133.toInt := by rw [show pj_fi G124 21 0 = y133 from hy133.symm]
      have q143 : (pj_fi G124 21 5).toInt = y134.toInt := by rw [show pj_fi G124 21 5 = y134 from hy134.symm]
      have q144 : (pj_fi G124 153 0).toInt = y135.toInt := by rw [show pj_fi G124 153 0 = y135 from hy135.symm]
      have q145 : (pj_fi G124 153 5).toInt = y136.toInt := by rw [show pj_fi G124 153 5 = y136 from hy136.symm]
      have q146 : (pj_fi G124 159 0).toInt = y137.toInt := by rw [show pj_fi G124 159 0 = y137 from hy137.symm]
      have q147 : (pj_fi G124 159 5).toInt = y138.toInt := by rw [show pj_fi G124 159 5 = y138 from hy138.symm]
      have q148 : (pj_fi G124 165 0).toInt = y139.toInt := by rw [show pj_fi G124 165 0 = y139 from hy139.symm]
      have q149 : (pj_fi G124 165 5).toInt = y140.toInt := by rw [show pj_fi G124 165 5 = y140 from hy140.symm]
      have q150 : (pj_fi G124 53 2).toInt = y141.toInt := by rw [show pj_fi G124 53 2 = y141 from hy141.symm]
      exact pj_X_rt rfl rfl ⟨_, rfl, iG124, kG124, ⟨by omega, by omega⟩, ⟨⟨fun _ => ey19.2.1 (by omega), fun hz => absurd hz (by omega)⟩, mr_PC_z (by omega) (by omega) (by omega)⟩⟩
    · refine pj_X_aa hI rfl rfl (k := 2) (by show _ = ((2 : Nat) : Int); omega) (by decide) rfl ?_
      have q151 : (pj_fi G0 21 0).toInt = y1.toInt := by rw [show pj_fi G0 21 0 = y1 from hy1.symm]
      have q152 : (pj_fi G0 21 5).toInt = y2.toInt := by rw [show pj_fi G0 21 5 = y2 from hy2.symm]
      have q153 : (pj_fi G0 153 0).toInt = y3.toInt := by rw [show pj_fi G0 153 0 = y3 from hy3.symm]
      have q154 : (pj_fi G0 153 5).toInt = y4.toInt := by rw [show pj_fi G0 153 5 = y4 from hy4.symm]
      have q155 : (pj_fi G0 159 0).toInt = y5.toInt := by rw [show pj_fi G0 159 0 = y5 from hy5.symm]
      have q156 : (pj_fi G0 159 5).toInt = y6.toInt := by rw [show pj_fi G0 159 5 = y6 from hy6.symm]
      have q157 : (pj_fi G0 165 0).toInt = y7.toInt := by rw [show pj_fi G0 165 0 = y7 from hy7.symm]
      have q158 : (pj_fi G0 165 5).toInt = y8.toInt := by rw [show pj_fi G0 165 5 = y8 from hy8.symm]
      have q159 : (pj_fi G0 53 2).toInt = y9.toInt := by rw [show pj_fi G0 53 2 = y9 from hy9.symm]
      refine pj_X_ca (vs := [.ref 21, .ref 165]) rfl (fun _ => rfl) ⟨Nat.le_of_ble_eq_true rfl, Nat.le_of_ble_eq_true rfl, pj_T_rcv hI rfl⟩ ⟨rfl, rfl⟩ (pj_Y_up (by decide) (ct_68_21_165x G0 hI)) ?_
      rintro _ G161 ⟨rfl, iG161, jG161, eG161, fy160⟩
      replace eG161 := eG161 _ rfl
      have kG161 : pj_kpt kc_158n G0 G161 := pj_kpt_t hK (pj_kpt_s jG161 rfl)
      have q162 : (pj_fi G161 153 0).toInt = (pj_fi G0 153 0).toInt := by rw [jG161.1 (153, 0) (by decide)]
      have q163 : (pj_fi G161 153 5).toInt = (pj_fi G0 153 5).toInt := by rw [jG161.1 (153, 5) (by decide)]
      have q164 : (pj_fi G161 159 0).toInt = (pj_fi G0 159 0).toInt := by rw [jG161.1 (159, 0) (by decide)]
      have q165 : (pj_fi G161 159 5).toInt = (pj_fi G0 159 5).toInt := by rw [jG161.1 (159, 5) (by decide)]
      have q166 : (pj_fi G161 165 0).toInt = (pj_fi G0 165 0).toInt := by rw [jG161.1 (165, 0) (by decide)]
      have q167 : (pj_fi G161 165 5).toInt = (pj_fi G0 165 5).toInt := by rw [jG161.1 (165, 5) (by decide)]
      have q168 : (pj_fi G161 53 2).toInt = (pj_fi G0 53 2).toInt := by rw [jG161.1 (53, 2) (by decide)]
      obtain ⟨y169, hy169⟩ : ∃ z : Int32, z = pj_fi G161 21 0 := ⟨_, rfl⟩
      have ey169 : (pj_fi G161 21 0).toInt = y169.toInt := by rw [hy169]
      have ry169 : (0 : Int) ≤ y169.toInt ∧ y169.toInt ≤ 6 := by rw [hy169]; exact iG161.2.1 21 0 (0, 6) rfl
      obtain ⟨y170, hy170⟩ : ∃ z : Int32, z = pj_fi G161 21 5 := ⟨_, rfl⟩
      have ey170 : (pj_fi G161 21 5).toInt = y170.toInt := by rw [hy170]
      have ry170 : (0 : Int) ≤ y170.toInt ∧ y170.toInt ≤ 6 := by rw [hy170]; exact iG161.2.1 21 5 (0, 6) rfl
      obtain ⟨y171, hy171⟩ : ∃ z : Int32, z = pj_fi G161 153 0 := ⟨_, rfl⟩
      have ey171 : (pj_fi G161 153 0).toInt = y171.toInt := by rw [hy171]
      have ry171 : (0 : Int) ≤ y171.toInt ∧ y171.toInt ≤ 6 := by rw [hy171]; exact iG161.2.1 153 0 (0, 6) rfl
      obtain ⟨y172, hy172⟩ : ∃ z : Int32, z = pj_fi G161 153 5 := ⟨_, rfl⟩
      have ey172 : (pj_fi G161 153 5).toInt = y172.toInt := by rw [hy172]
      have ry172 : (0 : Int) ≤ y172.toInt ∧ y172.toInt ≤ 6 := by rw [hy172]; exact iG161.2.1 153 5 (0, 6) rfl
      obtain ⟨y173, hy173⟩ : ∃ z : Int32, z = pj_fi G161 159 0 := ⟨_, rfl⟩
      have ey173 : (pj_fi G161 159 0).toInt = y173.toInt := by rw [hy173]
      have ry173 : (0 : Int) ≤ y173.toInt ∧ y173.toInt ≤ 6 := by rw [hy173]; exact iG161.2.1 159 0 (0, 6) rfl
      obtain ⟨y174, hy174⟩ : ∃ z : Int32, z = pj_fi G161 159 5 := ⟨_, rfl⟩
      have ey174 : (pj_fi G161 159 5).toInt = y174.toInt := by rw [hy174]
      have ry174 : (0 : Int) ≤ y174.toInt ∧ y174.toInt ≤ 6 := by rw [hy174]; exact iG161.2.1 159 5 (0, 6) rfl
      obtain ⟨y175, hy175⟩ : ∃ z : Int32, z = pj_fi G161 165 0 := ⟨_, rfl⟩
      have ey175 : (pj_fi G161 165 0).toInt = y175.toInt := by rw [hy175]
      have ry175 : (0 : Int) ≤ y175.toInt ∧ y175.toInt ≤ 6 := by rw [hy175]; exact iG161.2.1 165 0 (0, 6) rfl
      obtain ⟨y176, hy176⟩ : ∃ z : Int32, z = pj_fi G161 165 5 := ⟨_, rfl⟩
      have ey176 : (pj_fi G161 165 5).toInt = y176.toInt := by rw [hy176]
      have ry176 : (0 : Int) ≤ y176.toInt ∧ y176.toInt ≤ 6 := by rw [hy176]; exact iG161.2.1 165 5 (0, 6) rfl
      obtain ⟨y177, hy177⟩ : ∃ z : Int32, z = pj_fi G161 53 2 := ⟨_, rfl⟩
      have ey177 : (pj_fi G161 53 2).toInt = y177.toInt := by rw [hy177]
      have ry177 : (0 : Int) ≤ y177.toInt ∧ y177.toInt ≤ 15 := by rw [hy177]; exact iG161.2.1 53 2 (0, 15) rfl
      show pj_X _ _ G161 39 [(0, .ref 1), (1, .int i)] [] _
      refine pj_X_of (fun r h => pj_R_to (G161, 40, [(0, .ref 1), (1, .int i)], [.ref 1], 0, 0) 40 2 (fun _ => rfl) h) ?_
      refine pj_X_of (fun r h => pj_T_gr iG161 rfl rfl rfl h) ?_
      have q178 : (pj_fi G161 21 0).toInt = y169.toInt := by rw [show pj_fi G161 21 0 = y169 from hy169.symm]
      have q179 : (pj_fi G161 21 5).toInt = y170.toInt := by rw [show pj_fi G161 21 5 = y170 from hy170.symm]
      have q180 : (pj_fi G161 153 0).toInt = y171.toInt := by rw [show pj_fi G161 153 0 = y171 from hy171.symm]
      have q181 : (pj_fi G161 153 5).toInt = y172.toInt := by rw [show pj_fi G161 153 5 = y172 from hy172.symm]
      have q182 : (pj_fi G161 159 0).toInt = y173.toInt := by rw [show pj_fi G161 159 0 = y173 from hy173.symm]
      have q183 : (pj_fi G161 159 5).toInt = y174.toInt := by rw [show pj_fi G161 159 5 = y174 from hy174.symm]
      have q184 : (pj_fi G161 165 0).toInt = y175.toInt := by rw [show pj_fi G161 165 0 = y175 from hy175.symm]
      have q185 : (pj_fi G161 165 5).toInt = y176.toInt := by rw [show pj_fi G161 165 5 = y176 from hy176.symm]
      have q186 : (pj_fi G161 53 2).toInt = y177.toInt := by rw [show pj_fi G161 53 2 = y177 from hy177.symm]
      refine pj_X_ca (vs := [.ref 53]) rfl (fun _ => rfl) ⟨Nat.le_of_ble_eq_true rfl, Nat.le_of_ble_eq_true rfl, pj_T_rcv iG161 rfl⟩ ⟨rfl, rfl⟩ (pj_Y_up (by decide) (ct_36n G161 iG161)) ?_
      rintro _ G188 ⟨rfl, iG188, jG188, eG188⟩
      have kG188 : pj_kpt kc_158n G0 G188 := pj_kpt_t kG161 (pj_kpt_s jG188 rfl)
      have q189 : (pj_fi G188 21 0).toInt = (pj_fi G161 21 0).toInt := by rw [jG188.1 (21, 0) (by decide)]
      have q190 : (pj_fi G188 21 5).toInt = (pj_fi G161 21 5).toInt := by rw [jG188.1 (21, 5) (by decide)]
      have q191 : (pj_fi G188 153 0).toInt = (pj_fi G161 153 0).toInt := by rw [jG188.1 (153, 0) (by decide)]
      have q192 : (pj_fi G188 153 5).toInt = (pj_fi G161 153 5).toInt := by rw [jG188.1 (153, 5) (by decide)]
      have q193 : (pj_fi G188 159 0).toInt = (pj_fi G161 159 0).toInt := by rw [jG188.1 (159, 0) (by decide)]
      have q194 : (pj_fi G188 159 5).toInt = (pj_fi G161 159 5).toInt := by rw [jG188.1 (159, 5) (by decide)]
      have q195 : (pj_fi G188 165 0).toInt = (pj_fi G161 165 0).toInt := by rw [jG188.1 (165, 0) (by decide)]
      have q196 : (pj_fi G188 165 5).toInt = (pj_fi G161 165 5).toInt := by rw [jG188.1 (165, 5) (by decide)]
      obtain ⟨y197, hy197⟩ : ∃ z : Int32, z = pj_fi G188 21 0 := ⟨_, rfl⟩
      have ey197 : (pj_fi G188 21 0).toInt = y197.toInt := by rw [hy197]
      have ry197 : (0 : Int) ≤ y197.toInt ∧ y197.toInt ≤ 6 := by rw [hy197]; exact iG188.2.1 21 0 (0, 6) rfl
      obtain ⟨y198, hy198⟩ : ∃ z : Int32, z = pj_fi G188 21 5 := ⟨_, rfl⟩
      have ey198 : (pj_fi G188 21 5).toInt = y198.toInt := by rw [hy198]
      have ry198 : (0 : Int) ≤ y198.toInt ∧ y198.toInt ≤ 6 := by rw [hy198]; exact iG188.2.1 21 5 (0, 6) rfl
      obtain ⟨y199, hy199⟩ : ∃ z : Int32, z = pj_fi G188 153 0 := ⟨_, rfl⟩
      have ey199 : (pj_fi G188 153 0).toInt = y199.toInt := by rw [hy199]
      have ry199 : (0 : Int) ≤ y199.toInt ∧ y199.toInt ≤ 6 := by rw [hy199]; exact iG188.2.1 153 0 (0, 6) rfl
      obtain ⟨y200, hy200⟩ : ∃ z : Int32, z = pj_fi G188 153 5 := ⟨_, rfl⟩
      have ey200 : (pj_fi G188 153 5).toInt = y200.toInt := by rw [hy200]
      have ry200 : (0 : Int) ≤ y200.toInt ∧ y200.toInt ≤ 6 := by rw [hy200]; exact iG188.2.1 153 5 (0, 6) rfl
      obtain ⟨y201, hy201⟩ : ∃ z : Int32, z = pj_fi G188 159 0 := ⟨_, rfl⟩
      have ey201 : (pj_fi G188 159 0).toInt = y201.toInt := by rw [hy201]
      have ry201 : (0 : Int) ≤ y201.toInt ∧ y201.toInt ≤ 6 := by rw [hy201]; exact iG188.2.1 159 0 (0, 6) rfl
      obtain ⟨y202, hy202⟩ : ∃ z : Int32, z = pj_fi G188 159 5 := ⟨_, rfl⟩
      have ey202 : (pj_fi G188 159 5).toInt = y202.toInt := by rw [hy202]
      have ry202 : (0 : Int) ≤ y202.toInt ∧ y202.toInt ≤ 6 := by rw [hy202]; exact iG188.2.1 159 5 (0, 6) rfl
      obtain ⟨y203, hy203⟩ : ∃ z : Int32, z = pj_fi G188 165 0 := ⟨_, rfl⟩
      have ey203 : (pj_fi G188 165 0).toInt = y203.toInt := by rw [hy203]
      have ry203 : (0 : Int) ≤ y203.toInt ∧ y203.toInt ≤ 6 := by rw [hy203]; exact iG188.2.1 165 0 (0, 6) rfl
      obtain ⟨y204, hy204⟩ : ∃ z : Int32, z = pj_fi G188 165 5 := ⟨_, rfl⟩
      have ey204 : (pj_fi G188 165 5).toInt = y204.toInt := by rw [hy204]
      have ry204 : (0 : Int) ≤ y204.toInt ∧ y204.toInt ≤ 6 := by rw [hy204]; exact iG188.2.1 165 5 (0, 6) rfl
      obtain ⟨y205, hy205⟩ : ∃ z : Int32, z = pj_fi G188 53 2 := ⟨_, rfl⟩
      have ey205 : (pj_fi G188 53 2).toInt = y205.toInt := by rw [hy205]
      have ry205 : (0 : Int) ≤ y205.toInt ∧ y205.toInt ≤ 15 := by rw [hy205]; exact iG188.2.1 53 2 (0, 15) rfl
      show pj_X _ _ G188 46 [(0, .ref 1), (1, .int i)] [] _
      refine pj_X_of (fun r h => pj_R_to (G188, 47, [(0, .ref 1), (1, .int i)], [.int (Int32.ofInt 1)], 0, 0) 47 2 (fun _ => rfl) h) ?_
      have q206 : (pj_fi G188 21 0).toInt = y197.toInt := by rw [show pj_fi G188 21 0 = y197 from hy197.symm]
      have q207 : (pj_fi G188 21 5).toInt = y198.toInt := by rw [show pj_fi G188 21 5 = y198 from hy198.symm]
      have q208 : (pj_fi G188 153 0).toInt = y199.toInt := by rw [show pj_fi G188 153 0 = y199 from hy199.symm]
      have q209 : (pj_fi G188 153 5).toInt = y200.toInt := by rw [show pj_fi G188 153 5 = y200 from hy200.symm]
      have q210 : (pj_fi G188 159 0).toInt = y201.toInt := by rw [show pj_fi G188 159 0 = y201 from hy201.symm]
      have q211 : (pj_fi G188 159 5).toInt = y202.toInt := by rw [show pj_fi G188 159 5 = y202 from hy202.symm]
      have q212 : (pj_fi G188 165 0).toInt = y203.toInt := by rw [show pj_fi G188 165 0 = y203 from hy203.symm]
      have q213 : (pj_fi G188 165 5).toInt = y204.toInt := by rw [show pj_fi G188 165 5 = y204 from hy204.symm]
      have q214 : (pj_fi G188 53 2).toInt = y205.toInt := by rw [show pj_fi G188 53 2 = y205 from hy205.symm]
      exact pj_X_rt rfl rfl ⟨_, rfl, iG188, kG188, ⟨by omega, by omega⟩, ⟨⟨fun _ => ey19.2.1 (by omega), fun hz => absurd hz (by omega)⟩, mr_PC_z (by omega) (by omega) (by omega)⟩⟩
  | false =>
    have ub20 := pj_u0_neF b20
    refine pj_X_of (fun r h => pj_R_ifF rfl b20 h) ?_
    refine pj_X_of (fun r h => pj_R_to (G0, 19, [(0, .ref 1), (1, .int i)], [.int (Int32.ofInt 0)], 0, 0) 19 2 (fun _ => rfl) h) ?_
    have q215 : (pj_fi G0 21 0).toInt = y1.toInt := by rw [show pj_fi G0 21 0 = y1 from hy1.symm]
    have q216 : (pj_fi G0 21 5).toInt = y2.toInt := by rw [show pj_fi G0 21 5 = y2 from hy2.symm]
    have q217 : (pj_fi G0 153 0).toInt = y3.toInt := by rw [show pj_fi G0 153 0 = y3 from hy3.symm]
    have q218 : (pj_fi G0 153 5).toInt = y4.toInt := by rw [show pj_fi G0 153 5 = y4 from hy4.symm]
    have q219 : (pj_fi G0 159 0).toInt = y5.toInt := by rw [show pj_fi G0 159 0 = y5 from hy5.symm]
    have q220 : (pj_fi G0 159 5).toInt = y6.toInt := by rw [show pj_fi G0 159 5 = y6 from hy6.symm]
    have q221 : (pj_fi G0 165 0).toInt = y7.toInt := by rw [show pj_fi G0 165 0 = y7 from hy7.symm]
    have q222 : (pj_fi G0 165 5).toInt = y8.toInt := by rw [show pj_fi G0 165 5 = y8 from hy8.symm]
    have q223 : (pj_fi G0 53 2).toInt = y9.toInt := by rw [show pj_fi G0 53 2 = y9 from hy9.symm]
    exact pj_X_rt rfl rfl ⟨_, rfl, hI, hK, ⟨by omega, by omega⟩, ⟨⟨fun hz => absurd hz (by omega), fun _ => ey19.2.2 (by omega)⟩, mr_PC_r _⟩⟩
def kc_132n : pj_KT := ([(2, 1), (2, 2), (2, 3), (2, 4), (4, 1), (6, 7), (6, 8), (21, 7), (21, 8), (49, 3), (53, 1), (53, 2), (57, 0), (57, 5), (57, 7), (57, 8), (63, 0), (63, 5), (63, 7), (63, 8), (69, 0), (69, 5), (69, 7), (69, 8), (75, 0), (75, 5), (75, 7), (75, 8), (81, 0), (81, 5), (81, 7), (81, 8), (87, 0), (87, 5), (87, 7), (87, 8), (93, 0), (93, 5), (93, 7), (93, 8), (99, 0), (99, 5), (99, 7), (99, 8), (105, 0), (105, 5), (105, 7), (105, 8), (111, 0), (111, 5), (111, 7), (111, 8), (117, 0), (117, 5), (117, 7), (117, 8), (123, 0), (123, 5), (123, 7), (123, 8), (129, 0), (129, 5), (129, 7), (129, 8), (135, 0), (135, 5), (135, 7), (135, 8), (141, 0), (141, 5), (141, 7), (141, 8), (147, 0), (147, 5), (147, 7), (147, 8)], [2, 4, 5, 6, 21, 22, 23, 24, 25, 26, 30, 33, 49, 50, 51, 52, 53, 57, 58, 59, 60, 61, 62, 63, 64, 65, 66, 67, 68, 69, 70, 71, 72, 73, 74, 75, 76, 77, 78, 79, 80, 81, 82, 83, 84, 85, 86, 87, 88, 89, 90, 91, 92, 93, 94, 95, 96, 97, 98, 99, 100, 101, 102, 103, 104, 105, 106, 107, 108, 109, 110, 111, 112, 113, 114, 115, 116, 117, 118, 119, 120, 121, 122, 123, 124, 125, 126, 127, 128, 129, 130, 131, 132, 133, 134, 135, 136, 137, 138, 139, 140, 141, 142, 143, 144, 145, 146, 147, 148, 149, 150, 151, 152], [22, 23, 24, 25, 26, 30, 33, 50, 51, 52, 58, 59, 60, 61, 62, 64, 65, 66, 67, 68, 70, 71, 72, 73, 74, 76, 77, 78, 79, 80, 82, 83, 84, 85, 86, 88, 89, 90, 91, 92, 94, 95, 96, 97, 98, 100, 101, 102, 103, 104, 106, 107, 108, 109, 110, 112, 113, 114, 115, 116, 118, 119, 120, 121, 122, 124, 125, 126, 127, 128, 130, 131, 132, 133, 134, 136, 137, 138, 139, 140, 142, 143, 144, 145, 146, 148, 149, 150, 151, 152])
theorem ct_132n (G0 : pj_G) (hI : pj_Inv G0) : pj_Y 20 132 [.ref 1] G0 (fun v G' => ∃ y : Int32, v = some (.int y) ∧ pj_Inv G' ∧ pj_kpt kc_132n G0 G' ∧ ((-2147483648 : Int) ≤ y.toInt ∧ y.toInt ≤ 2147483647) ∧ ((pj_fi G' 2 1).toInt = 0 ∧ mr_PC G0 G')) := by
  have c0_ : ((Int8.ofInt 60).toInt32).toInt = 60 := by decide
  have c1_ : (Int32.ofInt (-1)).toInt = -1 := by decide
  have c2_ : (Int32.ofInt 0).toInt = 0 := by decide
  have c3_ : (Int32.ofInt 1).toInt = 1 := by decide
  refine pj_Y_X (M := pj_m132) rfl rfl (Nat.le_of_ble_eq_true rfl) ?_
  have hK : pj_kpt kc_132n G0 G0 := pj_kpt_r _ _
  show pj_X _ _ G0 0 [(0, .ref 1)] [] _
  obtain ⟨y1, hy1⟩ : ∃ z : Int32, z = pj_fi G0 2 1 := ⟨_, rfl⟩
  have ey1 : (pj_fi G0 2 1).toInt = y1.toInt := by rw [hy1]
  have ry1 : (0 : Int) ≤ y1.toInt ∧ y1.toInt ≤ 80 := by rw [hy1]; exact hI.2.1 2 1 (0, 80) rfl
  refine pj_X_of (fun r h => pj_R_to (G0, 1, [(0, .ref 1)], [.ref 1], 0, 0) 1 2 (fun _ => rfl) h) ?_
  refine pj_X_of (fun r h => pj_T_gr hI rfl rfl rfl h) ?_
  refine pj_X_of (fun r h => pj_R_to (G0, 6, [(0, .ref 1)], [.int ((Int8.ofInt 60).toInt32), .ref 2], 0, 0) 6 2 (fun _ => rfl) h) ?_
  have q2 : (pj_fi G0 2 1).toInt = y1.toInt := by rw [show pj_fi G0 2 1 = y1 from hy1.symm]
  refine pj_X_ca (vs := [.ref 2, .int ((Int8.ofInt 60).toInt32)]) rfl (fun _ => rfl) ⟨Nat.le_of_ble_eq_true rfl, Nat.le_of_ble_eq_true rfl, pj_T_rcv hI rfl⟩ ⟨rfl, rfl⟩ (pj_Y_up (by decide) (ct_79x G0 hI ((Int8.ofInt 60).toInt32) ⟨by omega, by omega⟩)) ?_
  rintro _ G4 ⟨rfl, iG4, jG4, eG4, fy3⟩
  replace eG4 := eG4 _ rfl
  have kG4 : pj_kpt kc_132n G0 G4 := pj_kpt_t hK (pj_kpt_s jG4 rfl)
  have q5 : (pj_fi G4 2 1).toInt = (pj_fi G0 2 1).toInt := by rw [jG4.1 (2, 1) (by decide)]
  obtain ⟨y6, hy6⟩ : ∃ z : Int32, z = pj_fi G4 2 1 := ⟨_, rfl⟩
  have ey6 : (pj_fi G4 2 1).toInt = y6.toInt := by rw [hy6]
  have ry6 : (0 : Int) ≤ y6.toInt ∧ y6.toInt ≤ 80 := by rw [hy6]; exact iG4.2.1 2 1 (0, 80) rfl
  show pj_X _ _ G4 9 [(0, .ref 1)] [] _
  refine pj_X_of (fun r h => pj_R_to (G4, 10, [(0, .ref 1)], [.ref 1], 0, 0) 10 2 (fun _ => rfl) h) ?_
  refine pj_X_of (fun r h => pj_T_gr iG4 rfl rfl rfl h) ?_
  refine pj_X_of (fun r h => pj_R_to (G4, 14, [(0, .ref 1)], [.ref 1, .ref 49], 0, 0) 14 2 (fun _ => rfl) h) ?_
  refine pj_X_of (fun r h => pj_T_gr iG4 rfl rfl rfl h) ?_
  have q7 : (pj_fi G4 2 1).toInt = y6.toInt := by rw [show pj_fi G4 2 1 = y6 from hy6.symm]
  refine pj_X_ca (vs := [.ref 49, .ref 2]) rfl (fun _ => rfl) ⟨Nat.le_of_ble_eq_true rfl, Nat.le_of_ble_eq_true rfl, pj_T_rcv iG4 rfl⟩ ⟨rfl, rfl⟩ (pj_Y_up (by decide) (ct_1 G4 iG4)) ?_
  rintro _ G9 ⟨rfl, iG9, jG9⟩
  have kG9 : pj_kpt kc_132n G0 G9 := pj_kpt_t kG4 (pj_kpt_s jG9 rfl)
  have q10 : (pj_fi G9 2 1).toInt = (pj_fi G4 2 1).toInt := by rw [jG9.1 (2, 1) (by decide)]
  obtain ⟨y11, hy11⟩ : ∃ z : Int32, z = pj_fi G9 2 1 := ⟨_, rfl⟩
  have ey11 : (pj_fi G9 2 1).toInt = y11.toInt := by rw [hy11]
  have ry11 : (0 : Int) ≤ y11.toInt ∧ y11.toInt ≤ 80 := by rw [hy11]; exact iG9.2.1 2 1 (0, 80) rfl
  show pj_X _ _ G9 20 [(0, .ref 1)] [] _
  refine pj_X_of (fun r h => pj_R_to (G9, 21, [(0, .ref 1)], [.ref 1], 0, 0) 21 2 (fun _ => rfl) h) ?_
  refine pj_X_of (fun r h => pj_T_gr iG9 rfl rfl rfl h) ?_
  have q12 : (pj_fi G9 2 1).toInt = y11.toInt := by rw [show pj_fi G9 2 1 = y11 from hy11.symm]
  refine pj_X_ca (vs := [.ref 2]) rfl (fun _ => rfl) ⟨Nat.le_of_ble_eq_true rfl, Nat.le_of_ble_eq_true rfl, pj_T_rcv iG9 rfl⟩ ⟨rfl, rfl⟩ (pj_Y_up (by decide) (ct_88tx G9 iG9)) ?_
  rintro _ G14 ⟨y13, rfl, iG14, jG14, ry13, ey13, fy13⟩
  replace ey13 := ey13 _ rfl
  have kG14 : pj_kpt kc_132n G0 G14 := pj_kpt_t kG9 (pj_kpt_s jG14 rfl)
  obtain ⟨y15, hy15⟩ : ∃ z : Int32, z = pj_fi G14 2 1 := ⟨_, rfl⟩
  have ey15 : (pj_fi G14 2 1).toInt = y15.toInt := by rw [hy15]
  have ry15 : (0 : Int) ≤ y15.toInt ∧ y15.toInt ≤ 80 := by rw [hy15]; exact iG14.2.1 2 1 (0, 80) rfl
  show pj_X _ _ G14 27 [(0, .ref 1)] [.int y13] _
  refine pj_X_of (fun r h => pj_R_to (G14, 30, [(1, .int y13), (0, .ref 1)], [.int (Int32.ofInt (-1)), .int y13], 0, 0) 30 4 (fun _ => rfl) h) ?_
  cases b16 : pj_c1 .eq y13 (Int32.ofInt (-1)) with
  | true =>
    have ub16 := pj_u_eqT b16
    refine pj_X_of (fun r h => pj_R_icT 38 rfl rfl b16 h) ?_
    refine pj_X_of (fun r h => pj_R_to (G14, 39, [(1, .int y13), (0, .ref 1)], [.ref 1], 0, 0) 39 2 (fun _ => rfl) h) ?_
    refine pj_X_of (fun r h => pj_T_gr iG14 rfl rfl rfl h) ?_
    refine pj_X_of (fun r h => pj_R_to (G14, 43, [(1, .int y13), (0, .ref 1)], [.ref 1, .ref 53], 0, 0) 43 2 (fun _ => rfl) h) ?_
    refine pj_X_of (fun r h => pj_T_gr iG14 rfl rfl rfl h) ?_
    refine pj_X_of (fun r h => pj_T_gr iG14 rfl rfl rfl h) ?_
    have q17 : (pj_fi G14 2 1).toInt = y15.toInt := by rw [show pj_fi G14 2 1 = y15 from hy15.symm]
    refine pj_X_ca (vs := [.ref 53, .ref 21]) rfl (fun _ => rfl) ⟨Nat.le_of_ble_eq_true rfl, Nat.le_of_ble_eq_true rfl, pj_T_rcv iG14 rfl⟩ ⟨rfl, rfl⟩ (pj_Y_up (by decide) (ct_33n G14 iG14)) ?_
    rintro _ G19 ⟨rfl, iG19, jG19, eG19⟩
    have kG19 : pj_kpt kc_132n G0 G19 := pj_kpt_t kG14 (pj_kpt_s jG19 rfl)
    have q20 : (pj_fi G19 2 1).toInt = (pj_fi G14 2 1).toInt := by rw [jG19.1 (2, 1) (by decide)]
    obtain ⟨y21, hy21⟩ : ∃ z : Int32, z = pj_fi G19 2 1 := ⟨_, rfl⟩
    have ey21 : (pj_fi G19 2 1).toInt = y21.toInt := by rw [hy21]
    have ry21 : (0 : Int) ≤ y21.toInt ∧ y21.toInt ≤ 80 := by rw [hy21]; exact iG19.2.1 2 1 (0, 80) rfl
    show pj_X _ _ G19 52 [(1, .int y13), (0, .ref 1)] [] _
    refine pj_X_of (fun r h => pj_R_to (G19, 53, [(1, .int y13), (0, .ref 1)], [.ref 1], 0, 0) 53 2 (fun _ => rfl) h) ?_
    refine pj_X_of (fun r h => pj_T_gr iG19 rfl rfl rfl h) ?_
    refine pj_X_of (fun r h => pj_T_gr iG19 rfl rfl rfl h) ?_
    refine pj_X_of (fun r h => pj_T_gi iG19 rfl rfl h) ?_
    show pj_X _ _ G19 62 [(1, .int y13), (0, .ref 1)] [.int (pj_fi G19 21 8)] _
    obtain ⟨y22, hy22⟩ : ∃ z : Int32, z = pj_fi G19 21 8 := ⟨_, rfl⟩
    refine pj_X_eqi hy22.symm ?_
    have ey22 : (pj_fi G19 21 8).toInt = y22.toInt := by rw [hy22]
    refine pj_X_of (fun r h => pj_R_to (G19, 64, [(2, .int y22), (1, .int y13), (0, .ref 1)], [.ref 1], 0, 0) 64 3 (fun _ => rfl) h) ?_
    refine pj_X_of (fun r h => pj_T_gr iG19 rfl rfl rfl h) ?_
    refine pj_X_of (fun r h => pj_R_to (G19, 68, [(2, .int y22), (1, .int y13), (0, .ref 1)], [.ref 1, .ref 49], 0, 0) 68 2 (fun _ => rfl) h) ?_
    refine pj_X_of (fun r h => pj_T_gr iG19 rfl rfl rfl h) ?_
    have q23 : (pj_fi G19 2 1).toInt = y21.toInt := by rw [show pj_fi G19 2 1 = y21 from hy21.symm]
    refine pj_X_ca (vs := [.ref 49, .ref 6]) rfl (fun _ => rfl) ⟨Nat.le_of_ble_eq_true rfl, Nat.le_of_ble_eq_true rfl, pj_T_rcv iG19 rfl⟩ ⟨rfl, rfl⟩ (pj_Y_up (by decide) (ct_3 G19 iG19)) ?_
    rintro _ G25 ⟨y24, rfl, iG25, jG25, ry24⟩
    have kG25 : pj_kpt kc_132n G0 G25 := pj_kpt_t kG19 (pj_kpt_s jG25 rfl)
    have q26 : (pj_fi G25 2 1).toInt = (pj_fi G19 2 1).toInt := by rw [jG25.1 (2, 1) (by decide)]
    obtain ⟨y27, hy27⟩ : ∃ z : Int32, z = pj_fi G25 2 1 := ⟨_, rfl⟩
    have ey27 : (pj_fi G25 2 1).toInt = y27.toInt := by rw [hy27]
    have ry27 : (0 : Int) ≤ y27.toInt ∧ y27.toInt ≤ 80 := by rw [hy27]; exact iG25.2.1 2 1 (0, 80) rfl
    show pj_X _ _ G25 74 [(2, .int y22), (1, .int y13), (0, .ref 1)] [.int y24] _
    refine pj_X_of (fun r h => pj_R_to (G25, 76, [(3, .int y24), (2, .int y22), (1, .int y13), (0, .ref 1)], [.ref 1], 0, 0) 76 3 (fun _ => rfl) h) ?_
    refine pj_X_of (fun r h => pj_T_gr iG25 rfl rfl rfl h) ?_
    refine pj_X_of (fun r h => pj_R_to (G25, 80, [(3, .int y24), (2, .int y22), (1, .int y13), (0, .ref 1)], [.int y24, .ref 53], 0, 0) 80 2 (fun _ => rfl) h) ?_
    cases b28 : pj_c1 .le y24 0 with
    | true =>
      have ub28 := pj_u0_leT b28
      refine pj_X_of (fun r h => pj_R_ifT 87 rfl rfl b28 h) ?_
      refine pj_X_of (fun r h => pj_R_to (G25, 88, [(3, .int y24), (2, .int y22), (1, .int y13), (0, .ref 1)], [.int (Int32.ofInt 0), .ref 53], 0, 0) 88 2 (fun _ => rfl) h) ?_
      have q29 : (pj_fi G25 2 1).toInt = y27.toInt := by rw [show pj_fi G25 2 1 = y27 from hy27.symm]
      refine pj_X_ca (vs := [.ref 53, .int (Int32.ofInt 0)]) rfl (fun _ => rfl) ⟨Nat.le_of_ble_eq_true rfl, Nat.le_of_ble_eq_true rfl, pj_T_rcv iG25 rfl⟩ ⟨rfl, rfl⟩ (pj_Y_up (by decide) (ct_34n G25 iG25 (Int32.ofInt 0) ⟨by omega, by omega⟩)) ?_
      rintro _ G31 ⟨rfl, iG31, jG31, eG31⟩
      have kG31 : pj_kpt kc_132n G0 G31 := pj_kpt_t kG25 (pj_kpt_s jG31 rfl)
      have q32 : (pj_fi G31 2 1).toInt = (pj_fi G25 2 1).toInt := by rw [jG31.1 (2, 1) (by decide)]
      obtain ⟨y33, hy33⟩ : ∃ z : Int32, z = pj_fi G31 2 1 := ⟨_, rfl⟩
      have ey33 : (pj_fi G31 2 1).toInt = y33.toInt := by rw [hy33]
      have ry33 : (0 : Int) ≤ y33.toInt ∧ y33.toInt ≤ 80 := by rw [hy33]; exact iG31.2.1 2 1 (0, 80) rfl
      show pj_X _ _ G31 91 [(3, .int y24), (2, .int y22), (1, .int y13), (0, .ref 1)] [] _
      refine pj_X_of (fun r h => pj_R_to (G31, 92, [(3, .int y24), (2, .int y22), (1, .int y13), (0, .ref 1)], [.ref 1], 0, 0) 92 2 (fun _ => rfl) h) ?_
      refine pj_X_of (fun r h => pj_T_gr iG31 rfl rfl rfl h) ?_
      refine pj_X_of (fun r h => pj_R_to (G31, 97, [(3, .int y24), (2, .int y22), (1, .int y13), (0, .ref 1)], [.ref 1, .int y24, .ref 4], 0, 0) 97 3 (fun _ => rfl) h) ?_
      refine pj_X_of (fun r h => pj_T_gr iG31 rfl rfl rfl h) ?_
      refine pj_X_of (fun r h => pj_T_gi iG31 rfl rfl h) ?_
      show pj_X _ _ G31 103 [(3, .int y24), (2, .int y22), (1, .int y13), (0, .ref 1)] [.int (pj_fi G31 49 3), .int y24, .ref 4] _
      obtain ⟨y34, hy34⟩ : ∃ z : Int32, z = pj_fi G31 49 3 := ⟨_, rfl⟩
      refine pj_X_eqi hy34.symm ?_
      have ey34 : (pj_fi G31 49 3).toInt = y34.toInt := by rw [hy34]
      have ry34 : (0 : Int) ≤ y34.toInt ∧ y34.toInt ≤ 21 := by rw [hy34]; exact iG31.2.1 49 3 (0, 21) rfl
      cases b35 : pj_c1 .ge y24 y34 with
      | true =>
        have ub35 := pj_u_geT b35
        refine pj_X_of (fun r h => pj_R_icT 110 rfl rfl b35 h) ?_
        refine pj_X_of (fun r h => pj_R_to (G31, 112, [(3, .int y24), (2, .int y22), (1, .int y13), (0, .ref 1)], [.ref 1, .long (Int64.ofNat 0), .ref 4], 0, 0) 112 3 (fun _ => rfl) h) ?_
        refine pj_X_of (fun r h => pj_T_gr iG31 rfl rfl rfl h) ?_
        refine pj_X_of (fun r h => pj_T_gr iG31 rfl rfl rfl h) ?_
        refine pj_X_of (fun r h => pj_T_gi iG31 rfl rfl h) ?_
        show pj_X _ _ G31 121 [(3, .int y24), (2, .int y22), (1, .int y13), (0, .ref 1)] [.int (pj_fi G31 21 8), .long (Int64.ofNat 0), .ref 4] _
        obtain ⟨y36, hy36⟩ : ∃ z : Int32, z = pj_fi G31 21 8 := ⟨_, rfl⟩
        refine pj_X_eqi hy36.symm ?_
        have ey36 : (pj_fi G31 21 8).toInt = y36.toInt := by rw [hy36]
        refine pj_X_of (fun r h => pj_R_to (G31, 123, [(3, .int y24), (2, .int y22), (1, .int y13), (0, .ref 1)], [.int (y36 - y22), .long (Int64.ofNat 0), .ref 4], 0, 0) 123 3 (fun _ => rfl) h) ?_
        obtain ⟨z37, hz37⟩ : ∃ z : Int32, z = y36 - y22 := ⟨_, rfl⟩
        refine pj_X_eqi hz37.symm ?_
        refine pj_X_of (fun r h => pj_R_to (G31, 124, [(3, .int y24), (2, .int y22), (1, .int y13), (0, .ref 1)], [.long z37.toInt64, .long (Int64.ofNat 0), .ref 4], 0, 0) 124 2 (fun _ => rfl) h) ?_
        have q38 : (pj_fi G31 2 1).toInt = y33.toInt := by rw [show pj_fi G31 2 1 = y33 from hy33.symm]
        have lc39 : (Int64.ofNat 0).toInt = 0 := by decide
        have lc40 : (z37.toInt64).toInt = z37.toInt := Int32.toInt_toInt64 _
        refine pj_X_ca (vs := [.ref 4, .long (Int64.ofNat 0), .long z37.toInt64]) rfl (fun _ => rfl) ⟨Nat.le_of_ble_eq_true rfl, Nat.le_of_ble_eq_true rfl, pj_T_rcv iG31 rfl⟩ ⟨rfl, rfl⟩ (pj_Y_up (by decide) (ct_56x G31 iG31 (Int64.ofNat 0) z37.toInt64)) ?_
        rintro _ G42 ⟨rfl, iG42, jG42, fy41⟩
        have kG42 : pj_kpt kc_132n G0 G42 := pj_kpt_t kG31 (pj_kpt_s jG42 rfl)
        have q43 : (pj_fi G42 2 1).toInt = (pj_fi G31 2 1).toInt := by rw [jG42.1 (2, 1) (by decide)]
        obtain ⟨y44, hy44⟩ : ∃ z : Int32, z = pj_fi G42 2 1 := ⟨_, rfl⟩
        have ey44 : (pj_fi G42 2 1).toInt = y44.toInt := by rw [hy44]
        have ry44 : (0 : Int) ≤ y44.toInt ∧ y44.toInt ≤ 80 := by rw [hy44]; exact iG42.2.1 2 1 (0, 80) rfl
        show pj_X _ _ G42 127 [(3, .int y24), (2, .int y22), (1, .int y13), (0, .ref 1)] [] _
        refine pj_X_of (fun r h => pj_R_to (G42, 128, [(3, .int y24), (2, .int y22), (1, .int y13), (0, .ref 1)], [.int y24], 0, 0) 128 2 (fun _ => rfl) h) ?_
        have q45 : (pj_fi G42 2 1).toInt = y44.toInt := by rw [show pj_fi G42 2 1 = y44 from hy44.symm]
        exact pj_X_rt rfl rfl ⟨_, rfl, iG42, kG42, pj_i32 _, ⟨by omega, mr_PC_t (mr_PC_k jG4 rfl) (mr_PC_t (mr_PC_k jG9 rfl) (mr_PC_t (mr_PC_k jG14 rfl) (mr_PC_t (mr_deed iG14 eG19 jG19 rfl jG25 rfl jG31 rfl (by omega)) (mr_PC_k jG42 rfl))))⟩⟩
      | false =>
        have ub35 := pj_u_geF b35
        refine pj_X_of (fun r h => pj_R_icF rfl b35 h) ?_
        refine pj_X_of (fun r h => pj_R_to (G31, 112, [(3, .int y24), (2, .int y22), (1, .int y13), (0, .ref 1)], [.ref 1, .long (Int64.ofNat 1), .ref 4], 0, 0) 112 4 (fun _ => rfl) h) ?_
        refine pj_X_of (fun r h => pj_T_gr iG31 rfl rfl rfl h) ?_
        refine pj_X_of (fun r h => pj_T_gr iG31 rfl rfl rfl h) ?_
        refine pj_X_of (fun r h => pj_T_gi iG31 rfl rfl h) ?_
        show pj_X _ _ G31 121 [(3, .int y24), (2, .int y22), (1, .int y13), (0, .ref 1)] [.int (pj_fi G31 21 8), .long (Int64.ofNat 1), .ref 4] _
        obtain ⟨y46, hy46⟩ : ∃ z : Int32, z = pj_fi G31 21 8 := ⟨_, rfl⟩
        refine pj_X_eqi hy46.symm ?_
        have ey46 : (pj_fi G31 21 8).toInt = y46.toInt := by rw [hy46]
        refine pj_X_of (fun r h => pj_R_to (G31, 123, [(3, .int y24), (2, .int y22), (1, .int y13), (0, .ref 1)], [.int (y46 - y22), .long (Int64.ofNat 1), .ref 4], 0, 0) 123 3 (fun _ => rfl) h) ?_
        obtain ⟨z47, hz47⟩ : ∃ z : Int32, z = y46 - y22 := ⟨_, rfl⟩
        refine pj_X_eqi hz47.symm ?_
        refine pj_X_of (fun r h => pj_R_to (G31, 124, [(3, .int y24), (2, .int y22), (1, .int y13), (0, .ref 1)], [.long z47.toInt64, .long (Int64.ofNat 1), .ref 4], 0, 0) 124 2 (fun _ => rfl) h) ?_
        have q48 : (pj_fi G31 2 1).toInt = y33.toInt := by rw [show pj_fi G31 2 1 = y33 from hy33.symm]
        have lc49 : (Int64.ofNat 1).toInt = 1 := by decide
        have lc50 : (z47.toInt64).toInt = z47.toInt := Int32.toInt_toInt64 _
        refine pj_X_ca (vs := [.ref 4, .long (Int64.ofNat 1), .long z47.toInt64]) rfl (fun _ => rfl) ⟨Nat.le_of_ble_eq_true rfl, Nat.le_of_ble_eq_true rfl, pj_T_rcv iG31 rfl⟩ ⟨rfl, rfl⟩ (pj_Y_up (by decide) (ct_56x G31 iG31 (Int64.ofNat 1) z47.toInt64)) ?_
        rintro _ G52 ⟨rfl, iG52, jG52, fy51⟩
        have kG52 : pj_kpt kc_132n G0 G52 := pj_kpt_t kG31 (pj_kpt_s jG52 rfl)
        have q53 : (pj_fi G52 2 1).toInt = (pj_fi G31 2 1).toInt := by rw [jG52.1 (2, 1) (by decide)]
        obtain ⟨y54, hy54⟩ : ∃ z : Int32, z = pj_fi G52 2 1 := ⟨_, rfl⟩
        have ey54 : (pj_fi G52 2 1).toInt = y54.toInt := by rw [hy54]
        have ry54 : (0 : Int) ≤ y54.toInt ∧ y54.toInt ≤ 80 := by rw [hy54]; exact iG52.2.1 2 1 (0, 80) rfl
        show pj_X _ _ G52 127 [(3, .int y24), (2, .int y22), (1, .int y13), (0, .ref 1)] [] _
        refine pj_X_of (fun r h => pj_R_to (G52, 128, [(3, .int y24), (2, .int y22), (1, .int y13), (0, .ref 1)], [.int y24], 0, 0) 128 2 (fun _ => rfl) h) ?_
        have q55 : (pj_fi G52 2 1).toInt = y54.toInt := by rw [show pj_fi G52 2 1 = y54 from hy54.symm]
        exact pj_X_rt rfl rfl ⟨_, rfl, iG52, kG52, pj_i32 _, ⟨by omega, mr_PC_t (mr_PC_k jG4 rfl) (mr_PC_t (mr_PC_k jG9 rfl) (mr_PC_t (mr_PC_k jG14 rfl) (mr_PC_t (mr_deed iG14 eG19 jG19 rfl jG25 rfl jG31 rfl (by omega)) (mr_PC_k jG52 rfl))))⟩⟩
    | false =>
      have ub28 := pj_u0_leF b28
      refine pj_X_of (fun r h => pj_R_ifF rfl b28 h) ?_
      refine pj_X_of (fun r h => pj_R_to (G25, 88, [(3, .int y24), (2, .int y22), (1, .int y13), (0, .ref 1)], [.int (Int32.ofInt 1), .ref 53], 0, 0) 88 3 (fun _ => rfl) h) ?_
      have q56 : (pj_fi G25 2 1).toInt = y27.toInt := by rw [show pj_fi G25 2 1 = y27 from hy27.symm]
      refine pj_X_ca (vs := [.ref 53, .int (Int32.ofInt 1)]) rfl (fun _ => rfl) ⟨Nat.le_of_ble_eq_true rfl, Nat.le_of_ble_eq_true rfl, pj_T_rcv iG25 rfl⟩ ⟨rfl, rfl⟩ (pj_Y_up (by decide) (ct_34n G25 iG25 (Int32.ofInt 1) ⟨by omega, by omega⟩)) ?_
      rintro _ G58 ⟨rfl, iG58, jG58, eG58⟩
      have kG58 : pj_kpt kc_132n G0 G58 := pj_kpt_t kG25 (pj_kpt_s jG58 rfl)
      have q59 : (pj_fi G58 2 1).toInt = (pj_fi G25 2 1).toInt := by rw [jG58.1 (2, 1) (by decide)]
      obtain ⟨y60, hy60⟩ : ∃ z : Int32, z = pj_fi G58 2 1 := ⟨_, rfl⟩
      have ey60 : (pj_fi G58 2 1).toInt = y60.toInt := by rw [hy60]
      have ry60 : (0 : Int) ≤ y60.toInt ∧ y60.toInt ≤ 80 := by rw [hy60]; exact iG58.2.1 2 1 (0, 80) rfl
      show pj_X _ _ G58 91 [(3, .int y24), (2, .int y22), (1, .int y13), (0, .ref 1)] [] _
      refine pj_X_of (fun r h => pj_R_to (G58, 92, [(3, .int y24), (2, .int y22), (1, .int y13), (0, .ref 1)], [.ref 1], 0, 0) 92 2 (fun _ => rfl) h) ?_
      refine pj_X_of (fun r h => pj_T_gr iG58 rfl rfl rfl h) ?_
      refine pj_X_of (fun r h => pj_R_to (G58, 97, [(3, .int y24), (2, .int y22), (1, .int y13), (0, .ref 1)], [.ref 1, .int y24, .ref 4], 0, 0) 97 3 (fun _ => rfl) h) ?_
      refine pj_X_of (fun r h => pj_T_gr iG58 rfl rfl rfl h) ?_
      refine pj_X_of (fun r h => pj_T_gi iG58 rfl rfl h) ?_
      show pj_X _ _ G58 103 [(3, .int y24), (2, .int y22), (1, .int y13), (0, .ref 1)] [.int (pj_fi G58 49 3), .int y24, .ref 4] _
      obtain ⟨y61, hy61⟩ : ∃ z : Int32, z = pj_fi G58 49 3 := ⟨_, rfl⟩
      refine pj_X_eqi hy61.symm ?_
      have ey61 : (pj_fi G58 49 3).toInt = y61.toInt := by rw [hy61]
      have ry61 : (0 : Int) ≤ y61.toInt ∧ y61.toInt ≤ 21 := by rw [hy61]; exact iG58.2.1 49 3 (0, 21) rfl
      cases b62 : pj_c1 .ge y24 y61 with
      | true =>
        have ub62 := pj_u_geT b62
        refine pj_X_of (fun r h => pj_R_icT 110 rfl rfl b62 h) ?_
        refine pj_X_of (fun r h => pj_R_to (G58, 112, [(3, .int y24), (2, .int y22), (1, .int y13), (0, .ref 1)], [.ref 1, .long (Int64.ofNat 0), .ref 4], 0, 0) 112 3 (fun _ => rfl) h) ?_
        refine pj_X_of (fun r h => pj_T_gr iG58 rfl rfl rfl h) ?_
        refine pj_X_of (fun r h => pj_T_gr iG58 rfl rfl rfl h) ?_
        refine pj_X_of (fun r h => pj_T_gi iG58 rfl rfl h) ?_
        show pj_X _ _ G58 121 [(3, .int y24), (2, .int y22), (1, .int y13), (0, .ref 1)] [.int (pj_fi G58 21 8), .long (Int64.ofNat 0), .ref 4] _
        obtain ⟨y63, hy63⟩ : ∃ z : Int32, z = pj_fi G58 21 8 := ⟨_, rfl⟩
        refine pj_X_eqi hy63.symm ?_
        have ey63 : (pj_fi G58 21 8).toInt = y63.toInt := by rw [hy63]
        refine pj_X_of (fun r h => pj_R_to (G58, 123, [(3, .int y24), (2, .int y22), (1, .int y13), (0, .ref 1)], [.int (y63 - y22), .long (Int64.ofNat 0), .ref 4], 0, 0) 123 3 (fun _ => rfl) h) ?_
        obtain ⟨z64, hz64⟩ : ∃ z : Int32, z = y63 - y22 := ⟨_, rfl⟩
        refine pj_X_eqi hz64.symm ?_
        refine pj_X_of (fun r h => pj_R_to (G58, 124, [(3, .int y24), (2, .int y22), (1, .int y13), (0, .ref 1)], [.long z64.toInt64, .long (Int64.ofNat 0), .ref 4], 0, 0) 124 2 (fun _ => rfl) h) ?_
        have q65 : (pj_fi G58 2 1).toInt = y60.toInt := by rw [show pj_fi G58 2 1 = y60 from hy60.symm]
        have lc66 : (Int64.ofNat 0).toInt = 0 := by decide
        have lc67 : (z64.toInt64).toInt = z64.toInt := Int32.toInt_toInt64 _
        refine pj_X_ca (vs := [.ref 4, .long (Int64.ofNat 0), .long z64.toInt64]) rfl (fun _ => rfl) ⟨Nat.le_of_ble_eq_true rfl, Nat.le_of_ble_eq_true rfl, pj_T_rcv iG58 rfl⟩ ⟨rfl, rfl⟩ (pj_Y_up (by decide) (ct_56x G58 iG58 (Int64.ofNat 0) z64.toInt64)) ?_
        rintro _ G69 ⟨rfl, iG69, jG69, fy68⟩
        have kG69 : pj_kpt kc_132n G0 G69 := pj_kpt_t kG58 (pj_kpt_s jG69 rfl)
        have q70 : (pj_fi G69 2 1).toInt = (pj_fi G58 2 1).toInt := by rw [jG69.1 (2, 1) (by decide)]
        obtain ⟨y71, hy71⟩ : ∃ z : Int32, z = pj_fi G69 2 1 := ⟨_, rfl⟩
        have ey71 : (pj_fi G69 2 1).toInt = y71.toInt := by rw [hy71]
        have ry71 : (0 : Int) ≤ y71.toInt ∧ y71.toInt ≤ 80 := by rw [hy71]; exact iG69.2.1 2 1 (0, 80) rfl
        show pj_X _ _ G69 127 [(3, .int y24), (2, .int y22), (1, .int y13), (0, .ref 1)] [] _
        refine pj_X_of (fun r h => pj_R_to (G69, 128, [(3, .int y24), (2, .int y22), (1, .int y13), (0, .ref 1)], [.int y24], 0, 0) 128 2 (fun _ => rfl) h) ?_
        have q72 : (pj_fi G69 2 1).toInt = y71.toInt := by rw [show pj_fi G69 2 1 = y71 from hy71.symm]
        exact pj_X_rt rfl rfl ⟨_, rfl, iG69, kG69, pj_i32 _, ⟨by omega, mr_PC_t (mr_PC_k jG4 rfl) (mr_PC_t (mr_PC_k jG9 rfl) (mr_PC_t (mr_PC_k jG14 rfl) (mr_PC_t (mr_deed iG14 eG19 jG19 rfl jG25 rfl jG58 rfl (by omega)) (mr_PC_k jG69 rfl))))⟩⟩
      | false =>
        have ub62 := pj_u_geF b62
        refine pj_X_of (fun r h => pj_R_icF rfl b62 h) ?_
        refine pj_X_of (fun r h => pj_R_to (G58, 112, [(3, .int y24), (2, .int y22), (1, .int y13), (0, .ref 1)], [.ref 1, .long (Int64.ofNat 1), .ref 4], 0, 0) 112 4 (fun _ => rfl) h) ?_
        refine pj_X_of (fun r h => pj_T_gr iG58 rfl rfl rfl h) ?_
        refine pj_X_of (fun r h => pj_T_gr iG58 rfl rfl rfl h) ?_
        refine pj_X_of (fun r h => pj_T_gi iG58 rfl rfl h) ?_
        show pj_X _ _ G58 121 [(3, .int y24), (2, .int y22), (1, .int y13), (0, .ref 1)] [.int (pj_fi G58 21 8), .long (Int64.ofNat 1), .ref 4] _
        obtain ⟨y73, hy73⟩ : ∃ z : Int32, z = pj_fi G58 21 8 := ⟨_, rfl⟩
        refine pj_X_eqi hy73.symm ?_
        have ey73 : (pj_fi G58 21 8).toInt = y73.toInt := by rw [hy73]
        refine pj_X_of (fun r h => pj_R_to (G58, 123, [(3, .int y24), (2, .int y22), (1, .int y13), (0, .ref 1)], [.int (y73 - y22), .long (Int64.ofNat 1), .ref 4], 0, 0) 123 3 (fun _ => rfl) h) ?_
        obtain ⟨z74, hz74⟩ : ∃ z : Int32, z = y73 - y22 := ⟨_, rfl⟩
        refine pj_X_eqi hz74.symm ?_
        refine pj_X_of (fun r h => pj_R_to (G58, 124, [(3, .int y24), (2, .int y22), (1, .int y13), (0, .ref 1)], [.long z74.toInt64, .long (Int64.ofNat 1), .ref 4], 0, 0) 124 2 (fun _ => rfl) h) ?_
        have q75 : (pj_fi G58 2 1).toInt = y60.toInt := by rw [show pj_fi G58 2 1 = y60 from hy60.symm]
        have lc76 : (Int64.ofNat 1).toInt = 1 := by decide
        have lc77 : (z74.toInt64).toInt = z74.toInt := Int32.toInt_toInt64 _
        refine pj_X_ca (vs := [.ref 4, .long (Int64.ofNat 1), .long z74.toInt64]) rfl (fun _ => rfl) ⟨Nat.le_of_ble_eq_true rfl, Nat.le_of_ble_eq_true rfl, pj_T_rcv iG58 rfl⟩ ⟨rfl, rfl⟩ (pj_Y_up (by decide) (ct_56x G58 iG58 (Int64.ofNat 1) z74.toInt64)) ?_
        rintro _ G79 ⟨rfl, iG79, jG79, fy78⟩
        have kG79 : pj_kpt kc_132n G0 G79 := pj_kpt_t kG58 (pj_kpt_s jG79 rfl)
        have q80 : (pj_fi G79 2 1).toInt = (pj_fi G58 2 1).toInt := by rw [jG79.1 (2, 1) (by decide)]
        obtain ⟨y81, hy81⟩ : ∃ z : Int32, z = pj_fi G79 2 1 := ⟨_, rfl⟩
        have ey81 : (pj_fi G79 2 1).toInt = y81.toInt := by rw [hy81]
        have ry81 : (0 : Int) ≤ y81.toInt ∧ y81.toInt ≤ 80 := by rw [hy81]; exact iG79.2.1 2 1 (0, 80) rfl
        show pj_X _ _ G79 127 [(3, .int y24), (2, .int y22), (1, .int y13), (0, .ref 1)] [] _
        refine pj_X_of (fun r h => pj_R_to (G79, 128, [(3, .int y24), (2, .int y22), (1, .int y13), (0, .ref 1)], [.int y24], 0, 0) 128 2 (fun _ => rfl) h) ?_
        have q82 : (pj_fi G79 2 1).toInt = y81.toInt := by rw [show pj_fi G79 2 1 = y81 from hy81.symm]
        exact pj_X_rt rfl rfl ⟨_, rfl, iG79, kG79, pj_i32 _, ⟨by omega, mr_PC_t (mr_PC_k jG4 rfl) (mr_PC_t (mr_PC_k jG9 rfl) (mr_PC_t (mr_PC_k jG14 rfl) (mr_PC_t (mr_deed iG14 eG19 jG19 rfl jG25 rfl jG58 rfl (by omega)) (mr_PC_k jG79 rfl))))⟩⟩
  | false =>
    have ub16 := pj_u_eqF b16
    refine pj_X_of (fun r h => pj_R_icF rfl b16 h) ?_
    refine pj_X_of (fun r h => pj_R_to (G14, 34, [(1, .int y13), (0, .ref 1)], [.int y13], 0, 0) 34 2 (fun _ => rfl) h) ?_
    have q83 : (pj_fi G14 2 1).toInt = y15.toInt := by rw [show pj_fi G14 2 1 = y15 from hy15.symm]
    refine pj_X_ca (vs := [.int y13]) rfl (fun _ => rfl) ⟨Nat.le_of_ble_eq_true rfl, Nat.le_of_ble_eq_true rfl, rfl⟩ ⟨rfl, rfl⟩ (pj_Y_up (by decide) (ct_162x G14 iG14 y13)) ?_
    rintro _ _ ⟨y84, rfl, rfl, ry84, fy84⟩
    show pj_X _ _ G14 37 [(1, .int y13), (0, .ref 1)] [.int y84] _
    have q85 : (pj_fi G14 2 1).toInt = y15.toInt := by rw [show pj_fi G14 2 1 = y15 from hy15.symm]
    exact pj_X_rt rfl rfl ⟨_, rfl, iG14, kG14, pj_i32 _, ⟨by omega, mr_PC_t (mr_PC_k jG4 rfl) (mr_PC_t (mr_PC_k jG9 rfl) (mr_PC_k jG14 rfl))⟩⟩
