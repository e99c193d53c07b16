def kc_181e : pj_KT := ([(171, 16), (171, 17), (171, 18), (171, 19)], [171], [])
theorem ct_181e (G0 : pj_G) (hI : pj_Inv G0) (most : Int32) (rmost : (0 : Int) ≤ most.toInt ∧ most.toInt ≤ 80) : pj_Y 1 181 [.ref 171, .int most] G0 (fun v G' => ∃ y : Int32, v = some (.int y) ∧ pj_Inv G' ∧ pj_kpt kc_181e G0 G' ∧ ((0 : Int) ≤ y.toInt ∧ y.toInt ≤ 80) ∧ ((pj_fi G' 171 17).toInt = 0 ∧ (pj_fi G' 171 18).toInt ≤ most.toInt ∧ (pj_fi G' 171 19).toInt = 0)) := by
  have c0_ : (Int32.ofInt 0).toInt = 0 := by decide
  refine pj_Y_X (M := pj_m181) rfl rfl (Nat.le_of_ble_eq_true rfl) ?_
  have hK : pj_kpt kc_181e G0 G0 := pj_kpt_r _ _
  show pj_X _ _ G0 0 [(0, .ref 171), (1, .int most)] [] _
  obtain ⟨y1, hy1⟩ : ∃ z : Int32, z = pj_fi G0 171 17 := ⟨_, rfl⟩
  have ey1 : (pj_fi G0 171 17).toInt = y1.toInt := by rw [hy1]
  have ry1 : (0 : Int) ≤ y1.toInt ∧ y1.toInt ≤ 80 := by rw [hy1]; exact hI.2.1 171 17 (0, 80) rfl
  obtain ⟨y2, hy2⟩ : ∃ z : Int32, z = pj_fi G0 171 18 := ⟨_, rfl⟩
  have ey2 : (pj_fi G0 171 18).toInt = y2.toInt := by rw [hy2]
  have ry2 : (0 : Int) ≤ y2.toInt ∧ y2.toInt ≤ 80 := by rw [hy2]; exact hI.2.1 171 18 (0, 80) rfl
  obtain ⟨y3, hy3⟩ : ∃ z : Int32, z = pj_fi G0 171 19 := ⟨_, rfl⟩
  have ey3 : (pj_fi G0 171 19).toInt = y3.toInt := by rw [hy3]
  have ry3 : (0 : Int) ≤ y3.toInt ∧ y3.toInt ≤ 4 := by rw [hy3]; exact hI.2.1 171 19 (0, 4) rfl
  refine pj_X_of (fun r h => pj_R_to (G0, 1, [(0, .ref 171), (1, .int most)], [.ref 171], 0, 0) 1 2 (fun _ => rfl) h) ?_
  refine pj_X_of (fun r h => pj_T_gi hI rfl rfl h) ?_
  show pj_X _ _ G0 4 [(0, .ref 171), (1, .int most)] [.int (pj_fi G0 171 16)] _
  obtain ⟨y4, hy4⟩ : ∃ z : Int32, z = pj_fi G0 171 16 := ⟨_, rfl⟩
  refine pj_X_eqi hy4.symm ?_
  have ey4 : (pj_fi G0 171 16).toInt = y4.toInt := by rw [hy4]
  have ry4 : (0 : Int) ≤ y4.toInt ∧ y4.toInt ≤ 80 := by rw [hy4]; exact hI.2.1 171 16 (0, 80) rfl
  refine pj_X_of (fun r h => pj_R_to (G0, 7, [(2, .int y4), (0, .ref 171), (1, .int most)], [.int (Int32.ofInt 0), .ref 171], 0, 0) 7 4 (fun _ => rfl) h) ?_
  refine pj_X_of (fun r h => pj_T_pf hI rfl rfl rfl h) ?_
  show pj_X _ _ (pj_wv G0 171 16 (.int (Int32.ofInt 0))) 10 [(2, .int y4), (0, .ref 171), (1, .int most)] [] _
  obtain ⟨G5, hG5⟩ : ∃ H, H = pj_wv G0 171 16 (.int (Int32.ofInt 0)) := ⟨_, rfl⟩
  have iG5 : pj_Inv G5 := by rw [hG5]; exact pj_Inv_wi hI (ci := 12) rfl (fun q hq => by cases hq; exact ⟨by show (0 : Int) ≤ _; omega, by show _ ≤ (80 : Int); omega⟩)
  have kG5 : pj_kpt kc_181e G0 G5 := by rw [hG5]; exact pj_kpt_v hK rfl
  rw [← hG5]
  refine pj_X_of (fun r h => pj_R_to (G5, 12, [(2, .int y4), (0, .ref 171), (1, .int most)], [.int (Int32.ofInt 0), .ref 171], 0, 0) 12 3 (fun _ => rfl) h) ?_
  refine pj_X_of (fun r h => pj_T_pf iG5 rfl rfl rfl h) ?_
  show pj_X _ _ (pj_wv G5 171 17 (.int (Int32.ofInt 0))) 15 [(2, .int y4), (0, .ref 171), (1, .int most)] [] _
  obtain ⟨G6, hG6⟩ : ∃ H, H = pj_wv G5 171 17 (.int (Int32.ofInt 0)) := ⟨_, rfl⟩
  have iG6 : pj_Inv G6 := by rw [hG6]; exact pj_Inv_wi iG5 (ci := 12) rfl (fun q hq => by cases hq; exact ⟨by show (0 : Int) ≤ _; omega, by show _ ≤ (80 : Int); omega⟩)
  have kG6 : pj_kpt kc_181e G0 G6 := by rw [hG6]; exact pj_kpt_v kG5 rfl
  rw [← hG6]
  refine pj_X_of (fun r h => pj_R_to (G6, 17, [(2, .int y4), (0, .ref 171), (1, .int most)], [.int (Int32.ofInt 0), .ref 171], 0, 0) 17 3 (fun _ => rfl) h) ?_
  refine pj_X_of (fun r h => pj_T_pf iG6 rfl rfl rfl h) ?_
  show pj_X _ _ (pj_wv G6 171 19 (.int (Int32.ofInt 0))) 20 [(2, .int y4), (0, .ref 171), (1, .int most)] [] _
  obtain ⟨G7, hG7⟩ : ∃ H, H = pj_wv G6 171 19 (.int (Int32.ofInt 0)) := ⟨_, rfl⟩
  have iG7 : pj_Inv G7 := by rw [hG7]; exact pj_Inv_wi iG6 (ci := 12) rfl (fun q hq => by cases hq; exact ⟨by show (0 : Int) ≤ _; omega, by show _ ≤ (4 : Int); omega⟩)
  have kG7 : pj_kpt kc_181e G0 G7 := by rw [hG7]; exact pj_kpt_v kG6 rfl
  rw [← hG7]
  refine pj_X_of (fun r h => pj_R_to (G7, 23, [(2, .int y4), (0, .ref 171), (1, .int most)], [.int most, .int y4, .ref 171], 0, 0) 23 4 (fun _ => rfl) h) ?_
  refine pj_X_of (fun r h => pj_R_mn (v := (if most < y4 then most else y4)) rfl rfl rfl (Nat.le_of_ble_eq_true rfl) h) ?_
  show pj_X _ _ G7 26 [(2, .int y4), (0, .ref 171), (1, .int most)] [.int (if most < y4 then most else y4), .ref 171] _
  obtain ⟨z8, hz8⟩ : ∃ z : Int32, z = (if most < y4 then most else y4) := ⟨_, rfl⟩
  refine pj_X_eqi hz8.symm ?_
  have fz8_0 : z8.toInt ≤ y4.toInt ∧ z8.toInt ≤ most.toInt ∧ (z8.toInt = y4.toInt ∨ z8.toInt = most.toInt) := by rw [hz8]; exact pj_minI
  refine pj_X_of (fun r h => pj_T_pf iG7 rfl rfl rfl h) ?_
  show pj_X _ _ (pj_wv G7 171 18 (.int z8)) 29 [(2, .int y4), (0, .ref 171), (1, .int most)] [] _
  obtain ⟨G9, hG9⟩ : ∃ H, H = pj_wv G7 171 18 (.int z8) := ⟨_, rfl⟩
  have iG9 : pj_Inv G9 := by rw [hG9]; exact pj_Inv_wi iG7 (ci := 12) rfl (fun q hq => by cases hq; exact ⟨by show (0 : Int) ≤ _; omega, by show _ ≤ (80 : Int); omega⟩)
  have kG9 : pj_kpt kc_181e G0 G9 := by rw [hG9]; exact pj_kpt_v kG7 rfl
  rw [← hG9]
  refine pj_X_of (fun r h => pj_R_to (G9, 30, [(2, .int y4), (0, .ref 171), (1, .int most)], [.int y4], 0, 0) 30 2 (fun _ => rfl) h) ?_
  have q10 : (pj_fi G9 171 17).toInt = (Int32.ofInt 0).toInt := by rw [show pj_fi G9 171 17 = Int32.ofInt 0 from by rw [hG9, pj_fi_wv_ne _ _ _ _ _ _ (by decide)]; exact (by rw [hG7, pj_fi_wv_ne _ _ _ _ _ _ (by decide)]; exact (by rw [hG6]; exact pj_fi_wi iG5.1 (ci := 12) rfl _))]
  have q11 : (pj_fi G9 171 18).toInt = z8.toInt := by rw [show pj_fi G9 171 18 = z8 from by rw [hG9]; exact pj_fi_wi iG7.1 (ci := 12) rfl _]
  have q12 : (pj_fi G9 171 19).toInt = (Int32.ofInt 0).toInt := by rw [show pj_fi G9 171 19 = Int32.ofInt 0 from by rw [hG9, pj_fi_wv_ne _ _ _ _ _ _ (by decide)]; exact (by rw [hG7]; exact pj_fi_wi iG6.1 (ci := 12) rfl _)]
  exact pj_X_rt rfl rfl ⟨_, rfl, iG9, kG9, ⟨by omega, by omega⟩, by omega⟩
def kc_193_1 : pj_KT := ([(171, 17), (171, 22)], [171, 181], [181])
theorem ct_193_1 (G0 : pj_G) (hI : pj_Inv G0) (is : Int32) (ris : (1 : Int) ≤ is.toInt ∧ is.toInt ≤ 1) (p0_ : (pj_fi G0 171 5).toInt + (pj_fi G0 171 22).toInt ≤ 6) : pj_Y 17 193 [.ref 171, .int is] G0 (fun v G' => ∃ y : Int32, v = some (.int y) ∧ pj_Inv G' ∧ pj_kpt kc_193_1 G0 G' ∧ ((0 : Int) ≤ y.toInt ∧ y.toInt ≤ 1) ∧ (((pj_fi G0 171 22).toInt ≤ (pj_fi G' 171 22).toInt ∧ (pj_fi G' 171 22).toInt ≤ (pj_fi G0 171 22).toInt + 1 ∧ (pj_fi G' 171 5).toInt + (pj_fi G' 171 22).toInt ≤ 6) ∧ (1 ≤ y.toInt → (pj_fi G' 171 22).toInt = (pj_fi G0 171 22).toInt + 1))) := by
  have c0_ : ((Int8.ofInt 6).toInt32).toInt = 6 := by decide
  have c1_ : (Int32.ofInt 0).toInt = 0 := by decide
  have c2_ : (Int32.ofInt 1).toInt = 1 := by decide
  have c3_ : (Int32.ofInt 2).toInt = 2 := by decide
  refine pj_Y_X (M := pj_m193) rfl rfl (Nat.le_of_ble_eq_true rfl) ?_
  have hK : pj_kpt kc_193_1 G0 G0 := pj_kpt_r _ _
  show pj_X _ _ G0 0 [(0, .ref 171), (1, .int is)] [] _
  obtain ⟨y1, hy1⟩ : ∃ z : Int32, z = pj_fi G0 171 22 := ⟨_, rfl⟩
  have ey1 : (pj_fi G0 171 22).toInt = y1.toInt := by rw [hy1]
  have ry1 : (0 : Int) ≤ y1.toInt ∧ y1.toInt ≤ 10 := by rw [hy1]; exact hI.2.1 171 22 (0, 10) rfl
  obtain ⟨y2, hy2⟩ : ∃ z : Int32, z = pj_fi G0 171 5 := ⟨_, rfl⟩
  have ey2 : (pj_fi G0 171 5).toInt = y2.toInt := by rw [hy2]
  have ry2 : (0 : Int) ≤ y2.toInt ∧ y2.toInt ≤ 6 := by rw [hy2]; exact hI.2.1 171 5 (0, 6) rfl
  obtain ⟨y3, hy3⟩ : ∃ z : Int32, z = pj_fi G0 171 3 := ⟨_, rfl⟩
  have ey3 : (pj_fi G0 171 3).toInt = y3.toInt := by rw [hy3]
  have ry3 : (0 : Int) ≤ y3.toInt ∧ y3.toInt ≤ 8 := by rw [hy3]; exact hI.2.1 171 3 (0, 8) rfl
  refine pj_X_of (fun r h => pj_R_to (G0, 1, [(0, .ref 171), (1, .int is)], [.int is], 0, 0) 1 2 (fun _ => rfl) h) ?_
  refine pj_X_of (fun r h => pj_R_ifF rfl (pj_b0_eqF (by omega)) h) ?_
  refine pj_X_of (fun r h => pj_R_to (G0, 5, [(0, .ref 171), (1, .int is)], [.ref 171], 0, 0) 5 2 (fun _ => rfl) h) ?_
  refine pj_X_of (fun r h => pj_T_gi hI rfl rfl h) ?_
  show pj_X _ _ G0 8 [(0, .ref 171), (1, .int is)] [.int (pj_fi G0 171 5)] _
  refine pj_X_eqi (show pj_fi G0 171 5 = y2 from hy2.symm) ?_
  refine pj_X_of (fun r h => pj_R_to (G0, 18, [(2, .int y2), (0, .ref 171), (1, .int is)], [.ref 171, .int y2], 0, 0) 18 5 (fun _ => rfl) h) ?_
  refine pj_X_of (fun r h => pj_T_gi hI rfl rfl h) ?_
  show pj_X _ _ G0 21 [(2, .int y2), (0, .ref 171), (1, .int is)] [.int (pj_fi G0 171 22), .int y2] _
  refine pj_X_eqi (show pj_fi G0 171 22 = y1 from hy1.symm) ?_
  refine pj_X_of (fun r h => pj_R_to (G0, 22, [(2, .int y2), (0, .ref 171), (1, .int is)], [.int (y2 + y1)], 0, 0) 22 2 (fun _ => rfl) h) ?_
  obtain ⟨z4, hz4⟩ : ∃ z : Int32, z = y2 + y1 := ⟨_, rfl⟩
  refine pj_X_eqi hz4.symm ?_
  have fz4_0 : z4.toInt = y2.toInt + y1.toInt := by rw [hz4]; exact pj_addI (by have := pj_i32 y2; have := pj_i32 y1; omega) (by have := pj_i32 y2; have := pj_i32 y1; omega)
  refine pj_X_of (fun r h => pj_R_to (G0, 23, [(2, .int y2), (0, .ref 171), (1, .int is)], [.int is, .int z4], 0, 0) 23 2 (fun _ => rfl) h) ?_
  refine pj_X_of (fun r h => pj_R_ifF rfl (pj_b0_eqF (by omega)) h) ?_
  refine pj_X_of (fun r h => pj_R_to (G0, 33, [(2, .int y2), (0, .ref 171), (1, .int is)], [.int ((Int8.ofInt 6).toInt32), .int z4], 0, 0) 33 3 (fun _ => rfl) h) ?_
  cases b5 : pj_c1 .ne z4 ((Int8.ofInt 6).toInt32) with
  | true =>
    have ub5 := pj_u_neT b5
    refine pj_X_of (fun r h => pj_R_icT 38 rfl rfl b5 h) ?_
    refine pj_X_of (fun r h => pj_R_to (G0, 40, [(2, .int y2), (0, .ref 171), (1, .int is)], [.ref 171, .int (Int32.ofInt 2)], 0, 0) 40 3 (fun _ => rfl) h) ?_
    refine pj_X_of (fun r h => pj_T_gi hI rfl rfl h) ?_
    show pj_X _ _ G0 43 [(2, .int y2), (0, .ref 171), (1, .int is)] [.int (pj_fi G0 171 22), .int (Int32.ofInt 2)] _
    refine pj_X_eqi (show pj_fi G0 171 22 = y1 from hy1.symm) ?_
    refine pj_X_of (fun r h => pj_R_to (G0, 44, [(2, .int y2), (0, .ref 171), (1, .int is)], [.int ((Int32.ofInt 2) * y1)], 0, 0) 44 2 (fun _ => rfl) h) ?_
    obtain ⟨z6, hz6⟩ : ∃ z : Int32, z = (Int32.ofInt 2) * y1 := ⟨_, rfl⟩
    refine pj_X_eqi hz6.symm ?_
    have fz6_0 : z6.toInt = 2 * y1.toInt := by rw [hz6]; exact pj_mulL (by decide) (by omega) (by omega)
    refine pj_X_of (fun r h => pj_R_to (G0, 46, [(3, .int z6), (2, .int y2), (0, .ref 171), (1, .int is)], [.ref 171], 0, 0) 46 3 (fun _ => rfl) h) ?_
    refine pj_X_of (fun r h => pj_T_gr hI rfl rfl rfl h) ?_
    refine pj_X_of (fun r h => pj_R_to (G0, 51, [(3, .int z6), (2, .int y2), (0, .ref 171), (1, .int is)], [.int is, .int z6, .ref 181], 0, 0) 51 3 (fun _ => rfl) h) ?_
    refine pj_X_of (fun r h => pj_R_ifF rfl (pj_b0_eqF (by omega)) h) ?_
    refine pj_X_of (fun r h => pj_R_to (G0, 58, [(3, .int z6), (2, .int y2), (0, .ref 171), (1, .int is)], [.retAddr 9, .ref 171, .int (Int32.ofInt 1), .int z6, .ref 181], 0, 0) 58 4 (fun _ => rfl) h) ?_
    have q7 : (pj_fi G0 171 22).toInt = y1.toInt := by rw [show pj_fi G0 171 22 = y1 from hy1.symm]
    have q8 : (pj_fi G0 171 5).toInt = y2.toInt := by rw [show pj_fi G0 171 5 = y2 from hy2.symm]
    have q9 : (pj_fi G0 171 3).toInt = y3.toInt := by rw [show pj_fi G0 171 3 = y3 from hy3.symm]
    refine pj_X_ca (vs := [.ref 171, .retAddr 9]) rfl (fun _ => rfl) ⟨Nat.le_of_ble_eq_true rfl, Nat.le_of_ble_eq_true rfl, pj_T_rcv hI rfl⟩ ⟨rfl, rfl⟩ (pj_Y_up (by decide) (ct_185_s9 G0 hI)) ?_
    rintro _ G11 ⟨y10, rfl, iG11, jG11, ry10, ey10⟩
    have kG11 : pj_kpt kc_193_1 G0 G11 := pj_kpt_t hK (pj_kpt_s jG11 rfl)
    have q12 : (pj_fi G11 171 22).toInt = (pj_fi G0 171 22).toInt := by rw [jG11.1 (171, 22) (by decide)]
    have q13 : (pj_fi G11 171 5).toInt = (pj_fi G0 171 5).toInt := by rw [jG11.1 (171, 5) (by decide)]
    have q14 : (pj_fi G11 171 3).toInt = (pj_fi G0 171 3).toInt := by rw [jG11.1 (171, 3) (by decide)]
    obtain ⟨y15, hy15⟩ : ∃ z : Int32, z = pj_fi G11 171 22 := ⟨_, rfl⟩
    have ey15 : (pj_fi G11 171 22).toInt = y15.toInt := by rw [hy15]
    have ry15 : (0 : Int) ≤ y15.toInt ∧ y15.toInt ≤ 10 := by rw [hy15]; exact iG11.2.1 171 22 (0, 10) rfl
    obtain ⟨y16, hy16⟩ : ∃ z : Int32, z = pj_fi G11 171 5 := ⟨_, rfl⟩
    have ey16 : (pj_fi G11 171 5).toInt = y16.toInt := by rw [hy16]
    have ry16 : (0 : Int) ≤ y16.toInt ∧ y16.toInt ≤ 6 := by rw [hy16]; exact iG11.2.1 171 5 (0, 6) rfl
    obtain ⟨y17, hy17⟩ : ∃ z : Int32, z = pj_fi G11 171 3 := ⟨_, rfl⟩
    have ey17 : (pj_fi G11 171 3).toInt = y17.toInt := by rw [hy17]
    have ry17 : (0 : Int) ≤ y17.toInt ∧ y17.toInt ≤ 8 := by rw [hy17]; exact iG11.2.1 171 3 (0, 8) rfl
    show pj_X _ _ G11 61 [(3, .int z6), (2, .int y2), (0, .ref 171), (1, .int is)] [.int y10, .int (Int32.ofInt 1), .int z6, .ref 181] _
    refine pj_X_of (fun r h => pj_R_to (G11, 62, [(3, .int z6), (2, .int y2), (0, .ref 171), (1, .int is)], [.int ((Int32.ofInt 1) + y10), .int z6, .ref 181], 0, 0) 62 2 (fun _ => rfl) h) ?_
    obtain ⟨z18, hz18⟩ : ∃ z : Int32, z = (Int32.ofInt 1) + y10 := ⟨_, rfl⟩
    refine pj_X_eqi hz18.symm ?_
    have fz18_0 : z18.toInt = (Int32.ofInt 1).toInt + y10.toInt := by rw [hz18]; exact pj_addI (by have := pj_i32 (Int32.ofInt 1); have := pj_i32 y10; omega) (by have := pj_i32 (Int32.ofInt 1); have := pj_i32 y10; omega)
    refine pj_X_of (fun r h => pj_R_to (G11, 73, [(3, .int z6), (2, .int y2), (0, .ref 171), (1, .int is)], [.int z18, .int z6, .ref 181], 0, 0) 73 2 (fun _ => rfl) h) ?_
    refine pj_X_of (fun r h => pj_T_is iG11 rfl rfl (by omega) (by omega) h) ?_
    show pj_X _ _ (pj_wa G11 181 z6.toInt.toNat z18) 74 [(3, .int z6), (2, .int y2), (0, .ref 171), (1, .int is)] [] _
    obtain ⟨G19, hG19⟩ : ∃ H, H = pj_wa G11 181 z6.toInt.toNat z18 := ⟨_, rfl⟩
    have iG19 : pj_Inv G19 := by rw [hG19]; exact pj_Inv_wa iG11 rfl (fun q hq => by cases hq; exact ⟨by show (-1 : Int) ≤ _; omega, by show _ ≤ (99 : Int); omega, by show _ ≤ (-1 : Int) ∨ (-1 : Int) ≤ _; omega⟩) (fun n hn => by cases hn)
    have kG19 : pj_kpt kc_193_1 G0 G19 := by rw [hG19]; exact pj_kpt_a kG11 rfl
    rw [← hG19]
    refine pj_X_of (fun r h => pj_R_to (G19, 75, [(3, .int z6), (2, .int y2), (0, .ref 171), (1, .int is)], [.int is], 0, 0) 75 2 (fun _ => rfl) h) ?_
    refine pj_X_of (fun r h => pj_R_ifF rfl (pj_b0_eqF (by omega)) h) ?_
    refine pj_X_of (fun r h => pj_R_to (G19, 79, [(3, .int z6), (2, .int y2), (0, .ref 171), (1, .int is)], [.ref 171], 0, 0) 79 2 (fun _ => rfl) h) ?_
    refine pj_X_of (fun r h => pj_T_gr iG19 rfl rfl rfl h) ?_
    refine pj_X_of (fun r h => pj_R_to (G19, 83, [(3, .int z6), (2, .int y2), (0, .ref 171), (1, .int is)], [.int z6, .ref 181], 0, 0) 83 2 (fun _ => rfl) h) ?_
    refine pj_X_of (fun r h => pj_T_il iG19 rfl rfl (by omega) (by omega) h) ?_
    show pj_X _ _ G19 84 [(3, .int z6), (2, .int y2), (0, .ref 171), (1, .int is)] [.int (pj_ai G19 181 z6.toInt.toNat)] _
    obtain ⟨z20, hz20⟩ : ∃ z : Int32, z = pj_ai G19 181 z6.toInt.toNat := ⟨_, rfl⟩
    refine pj_X_eqi hz20.symm ?_
    have ez20 : (pj_ai G19 181 z6.toInt.toNat).toInt = z20.toInt := by rw [hz20]
    have fz20_0 : (-1 : Int) ≤ z20.toInt ∧ z20.toInt ≤ 99 ∧ (z20.toInt ≤ -1 ∨ -1 ≤ z20.toInt) := by rw [hz20]; exact iG19.2.2.1 181 (40, -1, 99, -1, -1) rfl _ (by show _ < 40; omega)
    have x21 : z20.toInt = z18.toInt := by rw [hz20, show z6.toInt.toNat = z6.toInt.toNat by omega, hG19, pj_ai_wa_eq iG11.1 rfl]
    cases b22 : pj_c1 .eq z20 0 with
    | true =>
      have ub22 := pj_u0_eqT b22
      refine pj_X_of (fun r h => pj_R_ifT 96 rfl rfl b22 h) ?_
      refine pj_X_of (fun r h => pj_R_to (G19, 97, [(3, .int z6), (2, .int y2), (0, .ref 171), (1, .int is)], [.int (Int32.ofInt 0)], 0, 0) 97 2 (fun _ => rfl) h) ?_
      have q23 : (pj_fi G19 171 22).toInt = y15.toInt := by rw [show pj_fi G19 171 22 = y15 from by rw [hG19, pj_fi_wa]; exact hy15.symm]
      have q24 : (pj_fi G19 171 5).toInt = y16.toInt := by rw [show pj_fi G19 171 5 = y16 from by rw [hG19, pj_fi_wa]; exact hy16.symm]
      have q25 : (pj_fi G19 171 3).toInt = y17.toInt := by rw [show pj_fi G19 171 3 = y17 from by rw [hG19, pj_fi_wa]; exact hy17.symm]
      exact pj_X_rt rfl rfl ⟨_, rfl, iG19, kG19, ⟨by omega, by omega⟩, ⟨by omega, fun q => by omega⟩⟩
    | false =>
      have ub22 := pj_u0_eqF b22
      refine pj_X_of (fun r h => pj_R_ifF rfl b22 h) ?_
      refine pj_X_of (fun r h => pj_R_to (G19, 88, [(3, .int z6), (2, .int y2), (0, .ref 171), (1, .int is)], [.ref 171], 0, 0) 88 2 (fun _ => rfl) h) ?_
      refine pj_X_of (fun r h => pj_T_gr iG19 rfl rfl rfl h) ?_
      refine pj_X_of (fun r h => pj_R_to (G19, 92, [(3, .int z6), (2, .int y2), (0, .ref 171), (1, .int is)], [.int z6, .ref 181], 0, 0) 92 2 (fun _ => rfl) h) ?_
      refine pj_X_of (fun r h => pj_T_il iG19 rfl rfl (by omega) (by omega) h) ?_
      show pj_X _ _ G19 93 [(3, .int z6), (2, .int y2), (0, .ref 171), (1, .int is)] [.int (pj_ai G19 181 z6.toInt.toNat)] _
      refine pj_X_eqi hz20.symm ?_
      cases b26 : pj_c1 .ge z20 0 with
      | true =>
        have ub26 := pj_u0_geT b26
        refine pj_X_of (fun r h => pj_R_ifT 98 rfl rfl b26 h) ?_
        refine pj_X_of (fun r h => pj_R_to (G19, 99, [(3, .int z6), (2, .int y2), (0, .ref 171), (1, .int is)], [.ref 171], 0, 0) 99 2 (fun _ => rfl) h) ?_
        refine pj_X_of (fun r h => pj_T_gr iG19 rfl rfl rfl h) ?_
        refine pj_X_of (fun r h => pj_R_to (G19, 105, [(3, .int z6), (2, .int y2), (0, .ref 171), (1, .int is)], [.int (z6 + (Int32.ofInt 1)), .ref 181], 0, 0) 105 4 (fun _ => rfl) h) ?_
        obtain ⟨z27, hz27⟩ : ∃ z : Int32, z = z6 + (Int32.ofInt 1) := ⟨_, rfl⟩
        refine pj_X_eqi hz27.symm ?_
        have fz27_0 : z27.toInt = z6.toInt + (Int32.ofInt 1).toInt := by rw [hz27]; exact pj_addI (by have := pj_i32 z6; have := pj_i32 (Int32.ofInt 1); omega) (by have := pj_i32 z6; have := pj_i32 (Int32.ofInt 1); omega)
        refine pj_X_of (fun r h => pj_R_to (G19, 106, [(3, .int z6), (2, .int y2), (0, .ref 171), (1, .int is)], [.int is, .int z27, .ref 181], 0, 0) 106 2 (fun _ => rfl) h) ?_
        refine pj_X_of (fun r h => pj_R_ifF rfl (pj_b0_eqF (by omega)) h) ?_
        refine pj_X_of (fun r h => pj_R_to (G19, 111, [(3, .int z6), (2, .int y2), (0, .ref 171), (1, .int is)], [.int (Int32.ofInt 1), .ref 171, .int z27, .ref 181], 0, 0) 111 3 (fun _ => rfl) h) ?_
        have q28 : (pj_fi G19 171 22).toInt = y15.toInt := by rw [show pj_fi G19 171 22 = y15 from by rw [hG19, pj_fi_wa]; exact hy15.symm]
        have q29 : (pj_fi G19 171 5).toInt = y16.toInt := by rw [show pj_fi G19 171 5 = y16 from by rw [hG19, pj_fi_wa]; exact hy16.symm]
        have q30 : (pj_fi G19 171 3).toInt = y17.toInt := by rw [show pj_fi G19 171 3 = y17 from by rw [hG19, pj_fi_wa]; exact hy17.symm]
        refine pj_X_ca (vs := [.ref 171, .int (Int32.ofInt 1)]) rfl (fun _ => rfl) ⟨Nat.le_of_ble_eq_true rfl, Nat.le_of_ble_eq_true rfl, pj_T_rcv iG19 rfl⟩ ⟨rfl, rfl⟩ (pj_Y_up (by decide) (ct_186 G19 iG19 (Int32.ofInt 1) ⟨by omega, by omega⟩)) ?_
        rintro _ G32 ⟨y31, rfl, iG32, jG32, ry31, ey31⟩
        have kG32 : pj_kpt kc_193_1 G0 G32 := pj_kpt_t kG19 (pj_kpt_s jG32 rfl)
        have q33 : (pj_fi G32 171 22).toInt = (pj_fi G19 171 22).toInt := by rw [jG32.1 (171, 22) (by decide)]
        have q34 : (pj_fi G32 171 5).toInt = (pj_fi G19 171 5).toInt := by rw [jG32.1 (171, 5) (by decide)]
        have q35 : (pj_fi G32 171 3).toInt = (pj_fi G19 171 3).toInt := by rw [jG32.1 (171, 3) (by decide)]
        obtain ⟨y36, hy36⟩ : ∃ z : Int32, z = pj_fi G32 171 22 := ⟨_, rfl⟩
        have ey36 : (pj_fi G32 171 22).toInt = y36.toInt := by rw [hy36]
        have ry36 : (0 : Int) ≤ y36.toInt ∧ y36.toInt ≤ 10 := by rw [hy36]; exact iG32.2.1 171 22 (0, 10) rfl
        obtain ⟨y37, hy37⟩ : ∃ z : Int32, z = pj_fi G32 171 5 := ⟨_, rfl⟩
        have ey37 : (pj_fi G32 171 5).toInt = y37.toInt := by rw [hy37]
        have ry37 : (0 : Int) ≤ y37.toInt ∧ y37.toInt ≤ 6 := by rw [hy37]; exact iG32.2.1 171 5 (0, 6) rfl
        obtain ⟨y38, hy38⟩ : ∃ z : Int32, z = pj_fi G32 171 3 := ⟨_, rfl⟩
        have ey38 : (pj_fi G32 171 3).toInt = y38.toInt := by rw [hy38]
        have ry38 : (0 : Int) ≤ y38.toInt ∧ y38.toInt ≤ 8 := by rw [hy38]; exact iG32.2.1 171 3 (0, 8) rfl
        show pj_X _ _ G32 114 [(3, .int z6), (2, .int y2), (0, .ref 171), (1, .int is)] [.int y31, .int z27, .ref 181] _
        refine pj_X_of (fun r h => pj_R_to (G32, 125, [(3, .int z6), (2, .int y2), (0, .ref 171), (1, .int is)], [.int y31, .int z27, .ref 181], 0, 0) 125 2 (fun _ => rfl) h) ?_
        refine pj_X_of (fun r h => pj_T_is iG32 rfl rfl (by omega) (by omega) h) ?_
        show pj_X _ _ (pj_wa G32 181 z27.toInt.toNat y31) 126 [(3, .int z6), (2, .int y2), (0, .ref 171), (1, .int is)] [] _
        obtain ⟨G39, hG39⟩ : ∃ H, H = pj_wa G32 181 z27.toInt.toNat y31 := ⟨_, rfl⟩
        have iG39 : pj_Inv G39 := by rw [hG39]; exact pj_Inv_wa iG32 rfl (fun q hq => by cases hq; exact ⟨by show (-1 : Int) ≤ _; omega, by show _ ≤ (99 : Int); omega, by show _ ≤ (-1 : Int) ∨ (-1 : Int) ≤ _; omega⟩) (fun n hn => by cases hn)
        have kG39 : pj_kpt kc_193_1 G0 G39 := by rw [hG39]; exact pj_kpt_a kG32 rfl
        rw [← hG39]
        refine pj_X_of (fun r h => pj_R_to (G39, 128, [(3, .int z6), (2, .int y2), (0, .ref 171), (1, .int is)], [.ref 171, .ref 171], 0, 0) 128 3 (fun _ => rfl) h) ?_
        refine pj_X_of (fun r h => pj_T_gi iG39 rfl rfl h) ?_
        show pj_X _ _ G39 131 [(3, .int z6), (2, .int y2), (0, .ref 171), (1, .int is)] [.int (pj_fi G39 171 22), .ref 171] _
        refine pj_X_eqi (show pj_fi G39 171 22 = y36 from by rw [hG39, pj_fi_wa]; exact hy36.symm) ?_
        refine pj_X_of (fun r h => pj_R_to (G39, 133, [(3, .int z6), (2, .int y2), (0, .ref 171), (1, .int is)], [.int (y36 + (Int32.ofInt 1)), .ref 171], 0, 0) 133 3 (fun _ => rfl) h) ?_
        obtain ⟨z40, hz40⟩ : ∃ z : Int32, z = y36 + (Int32.ofInt 1) := ⟨_, rfl⟩
        refine pj_X_eqi hz40.symm ?_
        have fz40_0 : z40.toInt = y36.toInt + (Int32.ofInt 1).toInt := by rw [hz40]; exact pj_addI (by have := pj_i32 y36; have := pj_i32 (Int32.ofInt 1); omega) (by have := pj_i32 y36; have := pj_i32 (Int32.ofInt 1); omega)
        refine pj_X_of (fun r h => pj_T_pf iG39 rfl rfl rfl h) ?_
        show pj_X _ _ (pj_wv G39 171 22 (.int z40)) 136 [(3, .int z6), (2, .int y2), (0, .ref 171), (1, .int is)] [] _
        obtain ⟨G41, hG41⟩ : ∃ H, H = pj_wv G39 171 22 (.int z40) := ⟨_, rfl⟩
        have iG41 : pj_Inv G41 := by rw [hG41]; exact pj_Inv_wi iG39 (ci := 12) rfl (fun q hq => by cases hq; exact ⟨by show (0 : Int) ≤ _; omega, by show _ ≤ (10 : Int); omega⟩)
        have kG41 : pj_kpt kc_193_1 G0 G41 := by rw [hG41]; exact pj_kpt_v kG39 rfl
        rw [← hG41]
        refine pj_X_of (fun r h => pj_R_to (G41, 137, [(3, .int z6), (2, .int y2), (0, .ref 171), (1, .int is)], [.int is], 0, 0) 137 2 (fun _ => rfl) h) ?_
        refine pj_X_of (fun r h => pj_R_ifF rfl (pj_b0_eqF (by omega)) h) ?_
        refine pj_X_of (fun r h => pj_R_to (G41, 141, [(3, .int z6), (2, .int y2), (0, .ref 171), (1, .int is)], [.ref 171], 0, 0) 141 2 (fun _ => rfl) h) ?_
        refine pj_X_of (fun r h => pj_T_gr iG41 rfl rfl rfl h) ?_
        refine pj_X_of (fun r h => pj_R_to (G41, 147, [(3, .int z6), (2, .int y2), (0, .ref 171), (1, .int is)], [.int (z6 + (Int32.ofInt 1)), .ref 181], 0, 0) 147 4 (fun _ => rfl) h) ?_
        obtain ⟨z42, hz42⟩ : ∃ z : Int32, z = z6 + (Int32.ofInt 1) := ⟨_, rfl⟩
        refine pj_X_eqi hz42.symm ?_
        have fz42_0 : z42.toInt = z6.toInt + (Int32.ofInt 1).toInt := by rw [hz42]; exact pj_addI (by have := pj_i32 z6; have := pj_i32 (Int32.ofInt 1); omega) (by have := pj_i32 z6; have := pj_i32 (Int32.ofInt 1); omega)
        refine pj_X_of (fun r h => pj_T_il iG41 rfl rfl (by omega) (by omega) h) ?_
        show pj_X _ _ G41 148 [(3, .int z6), (2, .int y2), (0, .ref 171), (1, .int is)] [.int (pj_ai G41 181 z42.toInt.toNat)] _
        obtain ⟨z43, hz43⟩ : ∃ z : Int32, z = pj_ai G41 181 z42.toInt.toNat := ⟨_, rfl⟩
        refine pj_X_eqi hz43.symm ?_
        have ez43 : (pj_ai G41 181 z42.toInt.toNat).toInt = z43.toInt := by rw [hz43]
        have fz43_0 : (-1 : Int) ≤ z43.toInt ∧ z43.toInt ≤ 99 ∧ (z43.toInt ≤ -1 ∨ -1 ≤ z43.toInt) := by rw [hz43]; exact iG41.2.2.1 181 (40, -1, 99, -1, -1) rfl _ (by show _ < 40; omega)
        have x44 : z43.toInt = y31.toInt := by rw [hz43, hG41, pj_ai_wv, show z42.toInt.toNat = z27.toInt.toNat by omega, hG39, pj_ai_wa_eq iG32.1 rfl]
        cases b45 : pj_c1 .lt z43 0 with
        | true =>
          have ub45 := pj_u0_ltT b45
          refine pj_X_of (fun r h => pj_R_ifT 155 rfl rfl b45 h) ?_
          refine pj_X_of (fun r h => pj_R_to (G41, 175, [(3, .int z6), (2, .int y2), (0, .ref 171), (1, .int is)], [.int (Int32.ofInt 0)], 0, 0) 175 3 (fun _ => rfl) h) ?_
          have q46 : (pj_fi G41 171 22).toInt = z40.toInt := by rw [show pj_fi G41 171 22 = z40 from by rw [hG41]; exact pj_fi_wi iG39.1 (ci := 12) rfl _]
          have q47 : (pj_fi G41 171 5).toInt = y37.toInt := by rw [show pj_fi G41 171 5 = y37 from by rw [hG41, pj_fi_wv_ne _ _ _ _ _ _ (by decide)]; exact (by rw [hG39, pj_fi_wa]; exact hy37.symm)]
          have q48 : (pj_fi G41 171 3).toInt = y38.toInt := by rw [show pj_fi G41 171 3 = y38 from by rw [hG41, pj_fi_wv_ne _ _ _ _ _ _ (by decide)]; exact (by rw [hG39, pj_fi_wa]; exact hy38.symm)]
          exact pj_X_rt rfl rfl ⟨_, rfl, iG41, kG41, ⟨by omega, by omega⟩, ⟨by omega, fun q => by omega⟩⟩
        | false =>
          have ub45 := pj_u0_ltF b45
          refine pj_X_of (fun r h => pj_R_ifF rfl b45 h) ?_
          refine pj_X_of (fun r h => pj_R_to (G41, 175, [(3, .int z6), (2, .int y2), (0, .ref 171), (1, .int is)], [.int (Int32.ofInt 1)], 0, 0) 175 3 (fun _ => rfl) h) ?_
          have q49 : (pj_fi G41 171 22).toInt = z40.toInt := by rw [show pj_fi G41 171 22 = z40 from by rw [hG41]; exact pj_fi_wi iG39.1 (ci := 12) rfl _]
          have q50 : (pj_fi G41 171 5).toInt = y37.toInt := by rw [show pj_fi G41 171 5 = y37 from by rw [hG41, pj_fi_wv_ne _ _ _ _ _ _ (by decide)]; exact (by rw [hG39, pj_fi_wa]; exact hy37.symm)]
          have q51 : (pj_fi G41 171 3).toInt = y38.toInt := by rw [show pj_fi G41 171 3 = y38 from by rw [hG41, pj_fi_wv_ne _ _ _ _ _ _ (by decide)]; exact (by rw [hG39, pj_fi_wa]; exact hy38.symm)]
          exact pj_X_rt rfl rfl ⟨_, rfl, iG41, kG41, ⟨by omega, by omega⟩, ⟨by omega, fun q => by omega⟩⟩
      | false =>
        have ub26 := pj_u0_geF b26
        refine pj_X_of (fun r h => pj_R_ifF rfl b26 h) ?_
        refine pj_X_of (fun r h => pj_R_to (G19, 97, [(3, .int z6), (2, .int y2), (0, .ref 171), (1, .int is)], [.int (Int32.ofInt 0)], 0, 0) 97 2 (fun _ => rfl) h) ?_
        have q52 : (pj_fi G19 171 22).toInt = y15.toInt := by rw [show pj_fi G19 171 22 = y15 from by rw [hG19, pj_fi_wa]; exact hy15.symm]
        have q53 : (pj_fi G19 171 5).toInt = y16.toInt := by rw [show pj_fi G19 171 5 = y16 from by rw [hG19, pj_fi_wa]; exact hy16.symm]
        have q54 : (pj_fi G19 171 3).toInt = y17.toInt := by rw [show pj_fi G19 171 3 = y17 from by rw [hG19, pj_fi_wa]; exact hy17.symm]
        exact pj_X_rt rfl rfl ⟨_, rfl, iG19, kG19, ⟨by omega, by omega⟩, ⟨by omega, fun q => by omega⟩⟩
  | false =>
    have ub5 := pj_u_neF b5
    refine pj_X_of (fun r h => pj_R_icF rfl b5 h) ?_
    refine pj_X_of (fun r h => pj_R_to (G0, 37, [(2, .int y2), (0, .ref 171), (1, .int is)], [.int (Int32.ofInt 0)], 0, 0) 37 2 (fun _ => rfl) h) ?_
    have q55 : (pj_fi G0 171 22).toInt = y1.toInt := by rw [show pj_fi G0 171 22 = y1 from hy1.symm]
    have q56 : (pj_fi G0 171 5).toInt = y2.toInt := by rw [show pj_fi G0 171 5 = y2 from hy2.symm]
    have q57 : (pj_fi G0 171 3).toInt = y3.toInt := by rw [show pj_fi G0 171 3 = y3 from hy3.symm]
    exact pj_X_rt rfl rfl ⟨_, rfl, hI, hK, ⟨by omega, by omega⟩, ⟨by omega, fun q => by omega⟩⟩
def kc_194_1 : pj_KT := ([(171, 16), (171, 17), (171, 18), (171, 19), (171, 22)], [171, 181], [181])
theorem lp_ct_194_1 (G0 : pj_G) (hI0 : pj_Inv G0) (is : Int32) (ris : (1 : Int) ≤ is.toInt ∧ is.toInt ≤ 1) : ∀ mn : Nat, (∀ (G : pj_G) (hI : pj_Inv G) (hK : pj_kpt kc_194_1 G0 G) (v2 : Int32) (v3 : Int32) (v4 : Int32), ((0 : Int) ≤ v2.toInt ∧ v2.toInt ≤ 80) → ((0 : Int) ≤ v3.toInt ∧ v3.toInt ≤ 1) → ((0 : Int) ≤ v4.toInt ∧ v4.toInt ≤ 1) → ((pj_fi G 171 22).toInt ≤ 6) → ((pj_fi G 171 5).toInt + (pj_fi G 171 22).toInt ≤ 6) → (1 ≤ v4.toInt → 1 ≤ v3.toInt) → 20 * (7 - (pj_fi G 171 22).toInt) + 10 * v4.toInt < (mn : Int) → pj_X 18 pj_m194 G 25 [(0, .ref 171), (1, .int is), (2, .int v2), (3, .int v3), (4, .int v4)] [] (fun v G' => ∃ y : Int32, v = some (.int y) ∧ pj_Inv G' ∧ pj_kpt kc_194_1 G0 G' ∧ ((-81 : Int) ≤ y.toInt ∧ y.toInt ≤ 0) ∧ ((pj_fi G' 171 5).toInt + (pj_fi G' 171 22).toInt ≤ 6))) := by
  have c0_ : ((Int8.ofInt 17).toInt32).toInt = 17 := by decide
  have c1_ : ((Int8.ofInt 59).toInt32).toInt = 59 := by decide
  have c2_ : (Int32.ofInt 0).toInt = 0 := by decide
  have c3_ : (Int32.ofInt 1).toInt = 1 := by decide
  intro mn
  induction mn with
  | zero =>
    intro G hI hK v2 v3 v4 rv2 rv3 rv4 x0_ x1_ x2_ hm
    exfalso
    omega
  | succ mn ih =>
    intro G hI hK v2 v3 v4 rv2 rv3 rv4 x0_ x1_ x2_ hm
    obtain ⟨y1, hy1⟩ : ∃ z : Int32, z = pj_fi G 171 22 := ⟨_, rfl⟩
    have ey1 : (pj_fi G 171 22).toInt = y1.toInt := by rw [hy1]
    have ry1 : (0 : Int) ≤ y1.toInt ∧ y1.toInt ≤ 10 := by rw [hy1]; exact hI.2.1 171 22 (0, 10) rfl
    obtain ⟨y2, hy2⟩ : ∃ z : Int32, z = pj_fi G 171 5 := ⟨_, rfl⟩
    have ey2 : (pj_fi G 171 5).toInt = y2.toInt := by rw [hy2]
    have ry2 : (0 : Int) ≤ y2.toInt ∧ y2.toInt ≤ 6 := by rw [hy2]; exact hI.2.1 171 5 (0, 6) rfl
    refine pj_X_of (fun r h => pj_R_to (G, 27, [(0, .ref 171), (1, .int is), (2, .int v2), (3, .int v3), (4, .int v4)], [.int v4], 0, 0) 27 2 (fun _ => rfl) h) ?_
    cases b3 : pj_c1 .eq v4 0 with
    | true =>
      have ub3 := pj_u0_eqT b3
      refine pj_X_of (fun r h => pj_R_ifT 59 rfl rfl b3 h) ?_
      refine pj_X_of (fun r h => pj_R_to (G, 64, [(0, .ref 171), (1, .int is), (2, .int v2), (3, .int v3), (4, .int v4)], [.int v3, .int ((Int8.ofInt 17).toInt32), .int v2, .ref 171], 0, 0) 64 5 (fun _ => rfl) h) ?_
      have q4 : (pj_fi G 171 22).toInt = y1.toInt := by rw [show pj_fi G 171 22 = y1 from hy1.symm]
      have q5 : (pj_fi G 171 5).toInt = y2.toInt := by rw [show pj_fi G 171 5 = y2 from hy2.symm]
      refine pj_X_ca (vs := [.ref 171, .int v2, .int ((Int8.ofInt 17).toInt32), .int v3]) rfl (fun _ => rfl) ⟨Nat.le_of_ble_eq_true rfl, Nat.le_of_ble_eq_true rfl, pj_T_rcv hI rfl⟩ ⟨rfl, rfl⟩ (pj_Y_up (by decide) (ct_188 G hI v2 ((Int8.ofInt 17).toInt32) v3 ⟨by omega, by omega⟩ ⟨by omega, by omega⟩ ⟨by omega, by omega⟩)) ?_
      rintro _ _ ⟨y6, rfl, rfl, ry6, ey6⟩
      show pj_X _ _ G 67 [(0, .ref 171), (1, .int is), (2, .int v2), (3, .int v3), (4, .int v4)] [.int y6] _
      have q7 : (pj_fi G 171 22).toInt = y1.toInt := by rw [show pj_fi G 171 22 = y1 from hy1.symm]
      have q8 : (pj_fi G 171 5).toInt = y2.toInt := by rw [show pj_fi G 171 5 = y2 from hy2.symm]
      exact pj_X_rt rfl rfl ⟨_, rfl, hI, hK, ⟨by omega, by omega⟩, by omega⟩
    | false =>
      have ub3 := pj_u0_eqF b3
      refine pj_X_of (fun r h => pj_R_ifF rfl b3 h) ?_
      refine pj_X_of (fun r h => pj_R_to (G, 32, [(0, .ref 171), (1, .int is), (2, .int v2), (3, .int v3), (4, .int v4)], [.int is, .ref 171], 0, 0) 32 3 (fun _ => rfl) h) ?_
      have q9 : (pj_fi G 171 22).toInt = y1.toInt := by rw [show pj_fi G 171 22 = y1 from hy1.symm]
      have q10 : (pj_fi G 171 5).toInt = y2.toInt := by rw [show pj_fi G 171 5 = y2 from hy2.symm]
      refine pj_X_ca (vs := [.ref 171, .int is]) rfl (fun _ => rfl) ⟨Nat.le_of_ble_eq_true rfl, Nat.le_of_ble_eq_true rfl, pj_T_rcv hI rfl⟩ ⟨rfl, rfl⟩ (pj_Y_up (by decide) (ct_193_1 G hI is ⟨by omega, by omega⟩ (by omega))) ?_
      rintro _ G12 ⟨y11, rfl, iG12, jG12, ry11, ey11⟩
      have kG12 : pj_kpt kc_194_1 G0 G12 := pj_kpt_t hK (pj_kpt_s jG12 rfl)
      have q13 : (pj_fi G12 171 5).toInt = (pj_fi G 171 5).toInt := by rw [jG12.1 (171, 5) (by decide)]
      obtain ⟨y14, hy14⟩ : ∃ z : Int32, z = pj_fi G12 171 22 := ⟨_, rfl⟩
      have ey14 : (pj_fi G12 171 22).toInt = y14.toInt := by rw [hy14]
      have ry14 : (0 : Int) ≤ y14.toInt ∧ y14.toInt ≤ 10 := by rw [hy14]; exact iG12.2.1 171 22 (0, 10) rfl
      obtain ⟨y15, hy15⟩ : ∃ z : Int32, z = pj_fi G12 171 5 := ⟨_, rfl⟩
      have ey15 : (pj_fi G12 171 5).toInt = y15.toInt := by rw [hy15]
      have ry15 : (0 : Int) ≤ y15.toInt ∧ y15.toInt ≤ 6 := by rw [hy15]; exact iG12.2.1 171 5 (0, 6) rfl
      show pj_X _ _ G12 35 [(0, .ref 171), (1, .int is), (2, .int v2), (3, .int v3), (4, .int v4)] [.int y11] _
      refine pj_X_of (fun r h => pj_R_to (G12, 37, [(3, .int y11), (0, .ref 171), (1, .int is), (2, .int v2), (4, .int v4)], [.int y11], 0, 0) 37 3 (fun _ => rfl) h) ?_
      cases b16 : pj_c1 .eq y11 0 with
      | true =>
        have ub16 := pj_u0_eqT b16
        refine pj_X_of (fun r h => pj_R_ifT 53 rfl rfl b16 h) ?_
        refine pj_X_of (fun r h => pj_R_to (G12, 25, [(4, .int (Int32.ofInt 0)), (3, .int y11), (0, .ref 171), (1, .int is), (2, .int v2)], [], 0, 0) 25 4 (fun _ => rfl) h) ?_
        have q17 : (pj_fi G12 171 22).toInt = y14.toInt := by rw [show pj_fi G12 171 22 = y14 from hy14.symm]
        have q18 : (pj_fi G12 171 5).toInt = y15.toInt := by rw [show pj_fi G12 171 5 = y15 from hy15.symm]
        exact pj_X_sub [(0, .ref 171), (1, .int is), (2, .int v2), (3, .int y11), (4, .int (Int32.ofInt 0))] (show List.Nodup [0, 1, 2, 3, 4] by decide) ⟨rfl, rfl, rfl, rfl, rfl, trivial⟩ (ih G12 iG12 kG12 v2 y11 (Int32.ofInt 0) ⟨by omega, by omega⟩ ⟨by omega, by omega⟩ ⟨by omega, by omega⟩ (by omega) (by omega) (by omega) (by omega))
      | false =>
        have ub16 := pj_u0_eqF b16
        refine pj_X_of (fun r h => pj_R_ifF rfl b16 h) ?_
        refine pj_X_of (fun r h => pj_R_to (G12, 43, [(3, .int y11), (0, .ref 171), (1, .int is), (2, .int v2), (4, .int v4)], [.int ((Int8.ofInt 59).toInt32), .ref 171], 0, 0) 43 3 (fun _ => rfl) h) ?_
        have q19 : (pj_fi G12 171 22).toInt = y14.toInt := by rw [show pj_fi G12 171 22 = y14 from hy14.symm]
        have q20 : (pj_fi G12 171 5).toInt = y15.toInt := by rw [show pj_fi G12 171 5 = y15 from hy15.symm]
        refine pj_X_ca (vs := [.ref 171, .int ((Int8.ofInt 59).toInt32)]) rfl (fun _ => rfl) ⟨Nat.le_of_ble_eq_true rfl, Nat.le_of_ble_eq_true rfl, pj_T_rcv iG12 rfl⟩ ⟨rfl, rfl⟩ (pj_Y_up (by decide) (ct_182 G12 iG12 ((Int8.ofInt 59).toInt32) ⟨by omega, by omega⟩)) ?_
        rintro _ G22 ⟨y21, rfl, iG22, jG22, ry21, ey21⟩
        have kG22 : pj_kpt kc_194_1 G0 G22 := pj_kpt_t kG12 (pj_kpt_s jG22 rfl)
        have q23 : (pj_fi G22 171 22).toInt = (pj_fi G12 171 22).toInt := by rw [jG22.1 (171, 22) (by decide)]
        have q24 : (pj_fi G22 171 5).toInt = (pj_fi G12 171 5).toInt := by rw [jG22.1 (171, 5) (by decide)]
        obtain ⟨y25, hy25⟩ : ∃ z : Int32, z = pj_fi G22 171 22 := ⟨_, rfl⟩
        have ey25 : (pj_fi G22 171 22).toInt = y25.toInt := by rw [hy25]
        have ry25 : (0 : Int) ≤ y25.toInt ∧ y25.toInt ≤ 10 := by rw [hy25]; exact iG22.2.1 171 22 (0, 10) rfl
        obtain ⟨y26, hy26⟩ : ∃ z : Int32, z = pj_fi G22 171 5 := ⟨_, rfl⟩
        have ey26 : (pj_fi G22 171 5).toInt = y26.toInt := by rw [hy26]
        have ry26 : (0 : Int) ≤ y26.toInt ∧ y26.toInt ≤ 6 := by rw [hy26]; exact iG22.2.1 171 5 (0, 6) rfl
        show pj_X _ _ G22 46 [(3, .int y11), (0, .ref 171), (1, .int is), (2, .int v2), (4, .int v4)] [.int y21] _
        cases b27 : pj_c1 .eq y21 0 with
        | true =>
          have ub27 := pj_u0_eqT b27
          refine pj_X_of (fun r h => pj_R_ifT 53 rfl rfl b27 h) ?_
          refine pj_X_of (fun r h => pj_R_to (G22, 25, [(4, .int (Int32.ofInt 0)), (3, .int y11), (0, .ref 171), (1, .int is), (2, .int v2)], [], 0, 0) 25 4 (fun _ => rfl) h) ?_
          have q28 : (pj_fi G22 171 22).toInt = y25.toInt := by rw [show pj_fi G22 171 22 = y25 from hy25.symm]
          have q29 : (pj_fi G22 171 5).toInt = y26.toInt := by rw [show pj_fi G22 171 5 = y26 from hy26.symm]
          exact pj_X_sub [(0, .ref 171), (1, .int is), (2, .int v2), (3, .int y11), (4, .int (Int32.ofInt 0))] (show List.Nodup [0, 1, 2, 3, 4] by decide) ⟨rfl, rfl, rfl, rfl, rfl, trivial⟩ (ih G22 iG22 kG22 v2 y11 (Int32.ofInt 0) ⟨by omega, by omega⟩ ⟨by omega, by omega⟩ ⟨by omega, by omega⟩ (by omega) (by omega) (by omega) (by omega))
        | false =>
          have ub27 := pj_u0_eqF b27
          refine pj_X_of (fun r h => pj_R_ifF rfl b27 h) ?_
          refine pj_X_of (fun r h => pj_R_to (G22, 25, [(4, .int (Int32.ofInt 1)), (3, .int y11), (0, .ref 171), (1, .int is), (2, .int v2)], [], 0, 0) 25 5 (fun _ => rfl) h) ?_
          have q30 : (pj_fi G22 171 22).toInt = y25.toInt := by rw [show pj_fi G22 171 22 = y25 from hy25.symm]
          have q31 : (pj_fi G22 171 5).toInt = y26.toInt := by rw [show pj_fi G22 171 5 = y26 from hy26.symm]
          exact pj_X_sub [(0, .ref 171), (1, .int is), (2, .int v2), (3, .int y11), (4, .int (Int32.ofInt 1))] (show List.Nodup [0, 1, 2, 3, 4] by decide) ⟨rfl, rfl, rfl, rfl, rfl, trivial⟩ (ih G22 iG22 kG22 v2 y11 (Int32.ofInt 1) ⟨by omega, by omega⟩ ⟨by omega, by omega⟩ ⟨by omega, by omega⟩ (by omega) (by omega) (by omega) (by omega))
theorem ct_194_1 (G0 : pj_G) (hI : pj_Inv G0) (is : Int32) (ris : (1 : Int) ≤ is.toInt ∧ is.toInt ≤ 1) : pj_Y 19 194 [.ref 171, .int is] G0 (fun v G' => ∃ y : Int32, v = some (.int y) ∧ pj_Inv G' ∧ pj_kpt kc_194_1 G0 G' ∧ ((-81 : Int) ≤ y.toInt ∧ y.toInt ≤ 0) ∧ ((pj_fi G' 171 5).toInt + (pj_fi G' 171 22).toInt ≤ 6)) := by
  have c0_ : ((Int8.ofInt 17).toInt32).toInt = 17 := by decide
  have c1_ : ((Int8.ofInt 59).toInt32).toInt = 59 := by decide
  have c2_ : (Int32.ofInt 0).toInt = 0 := by decide
  have c3_ : (Int32.ofInt 1).toInt = 1 := by decide
  refine pj_Y_X (M := pj_m194) rfl rfl (Nat.le_of_ble_eq_true rfl) ?_
  have hK : pj_kpt kc_194_1 G0 G0 := pj_kpt_r _ _
  show pj_X _ _ G0 0 [(0, .ref 171), (1, .int is)] [] _
  obtain ⟨y32, hy32⟩ : ∃ z : Int32, z = pj_fi G0 171 22 := ⟨_, rfl⟩
  have ey32 : (pj_fi G0 171 22).toInt = y32.toInt := by rw [hy32]
  have ry32 : (0 : Int) ≤ y32.toInt ∧ y32.toInt ≤ 10 := by rw [hy32]; exact hI.2.1 171 22 (0, 10) rfl
  obtain ⟨y33, hy33⟩ : ∃ z : Int32, z = pj_fi G0 171 5 := ⟨_, rfl⟩
  have ey33 : (pj_fi G0 171 5).toInt = y33.toInt := by rw [hy33]
  have ry33 : (0 : Int) ≤ y33.toInt ∧ y33.toInt ≤ 6 := by rw [hy33]; exact hI.2.1 171 5 (0, 6) rfl
  refine pj_X_of (fun r h => pj_R_to (G0, 3, [(0, .ref 171), (1, .int is)], [.int ((Int8.ofInt 17).toInt32), .ref 171], 0, 0) 3 3 (fun _ => rfl) h) ?_
  have q34 : (pj_fi G0 171 22).toInt = y32.toInt := by rw [show pj_fi G0 171 22 = y32 from hy32.symm]
  have q35 : (pj_fi G0 171 5).toInt = y33.toInt := by rw [show pj_fi G0 171 5 = y33 from hy33.symm]
  refine pj_X_ca (vs := [.ref 171, .int ((Int8.ofInt 17).toInt32)]) rfl (fun _ => rfl) ⟨Nat.le_of_ble_eq_true rfl, Nat.le_of_ble_eq_true rfl, pj_T_rcv hI rfl⟩ ⟨rfl, rfl⟩ (pj_Y_up (by decide) (ct_181e G0 hI ((Int8.ofInt 17).toInt32) ⟨by omega, by omega⟩)) ?_
  rintro _ G37 ⟨y36, rfl, iG37, jG37, ry36, ey36⟩
  have kG37 : pj_kpt kc_194_1 G0 G37 := pj_kpt_t hK (pj_kpt_s jG37 rfl)
  have q38 : (pj_fi G37 171 22).toInt = (pj_fi G0 171 22).toInt := by rw [jG37.1 (171, 22) (by decide)]
  have q39 : (pj_fi G37 171 5).toInt = (pj_fi G0 171 5).toInt := by rw [jG37.1 (171, 5) (by decide)]
  obtain ⟨y40, hy40⟩ : ∃ z : Int32, z = pj_fi G37 171 22 := ⟨_, rfl⟩
  have ey40 : (pj_fi G37 171 22).toInt = y40.toInt := by rw [hy40]
  have ry40 : (0 : Int) ≤ y40.toInt ∧ y40.toInt ≤ 10 := by rw [hy40]; exact iG37.2.1 171 22 (0, 10) rfl
  obtain ⟨y41, hy41⟩ : ∃ z : Int32, z = pj_fi G37 171 5 := ⟨_, rfl⟩
  have ey41 : (pj_fi G37 171 5).toInt = y41.toInt := by rw [hy41]
  have ry41 : (0 : Int) ≤ y41.toInt ∧ y41.toInt ≤ 6 := by rw [hy41]; exact iG37.2.1 171 5 (0, 6) rfl
  show pj_X _ _ G37 6 [(0, .ref 171), (1, .int is)] [.int y36] _
  refine pj_X_of (fun r h => pj_R_to (G37, 9, [(2, .int y36), (0, .ref 171), (1, .int is)], [.int (Int32.ofInt 0), .ref 171], 0, 0) 9 4 (fun _ => rfl) h) ?_
  refine pj_X_of (fun r h => pj_T_pf iG37 rfl rfl rfl h) ?_
  show pj_X _ _ (pj_wv G37 171 22 (.int (Int32.ofInt 0))) 12 [(2, .int y36), (0, .ref 171), (1, .int is)] [] _
  obtain ⟨G42, hG42⟩ : ∃ H, H = pj_wv G37 171 22 (.int (Int32.ofInt 0)) := ⟨_, rfl⟩
  have iG42 : pj_Inv G42 := by rw [hG42]; exact pj_Inv_wi iG37 (ci := 12) rfl (fun q hq => by cases hq; exact ⟨by show (0 : Int) ≤ _; omega, by show _ ≤ (10 : Int); omega⟩)
  have kG42 : pj_kpt kc_194_1 G0 G42 := by rw [hG42]; exact pj_kpt_v kG37 rfl
  rw [← hG42]
  refine pj_X_of (fun r h => pj_R_to (G42, 15, [(3, .int (Int32.ofInt 1)), (2, .int y36), (0, .ref 171), (1, .int is)], [.int y36], 0, 0) 15 4 (fun _ => rfl) h) ?_
  cases b43 : pj_c1 .le y36 0 with
  | true =>
    have ub43 := pj_u0_leT b43
    refine pj_X_of (fun r h => pj_R_ifT 22 rfl rfl b43 h) ?_
    refine pj_X_of (fun r h => pj_R_to (G42, 25, [(4, .int (Int32.ofInt 0)), (3, .int (Int32.ofInt 1)), (2, .int y36), (0, .ref 171), (1, .int is)], [], 0, 0) 25 3 (fun _ => rfl) h) ?_
    have q44 : (pj_fi G42 171 22).toInt = (Int32.ofInt 0).toInt := by rw [show pj_fi G42 171 22 = Int32.ofInt 0 from by rw [hG42]; exact pj_fi_wi iG37.1 (ci := 12) rfl _]
    have q45 : (pj_fi G42 171 5).toInt = y41.toInt := by rw [show pj_fi G42 171 5 = y41 from by rw [hG42, pj_fi_wv_ne _ _ _ _ _ _ (by decide)]; exact hy41.symm]
    exact pj_X_sub [(0, .ref 171), (1, .int is), (2, .int y36), (3, .int (Int32.ofInt 1)), (4, .int (Int32.ofInt 0))] (show List.Nodup [0, 1, 2, 3, 4] by decide) ⟨rfl, rfl, rfl, rfl, rfl, trivial⟩ ((lp_ct_194_1 G0 hI is ris 301) G42 iG42 kG42 y36 (Int32.ofInt 1) (Int32.ofInt 0) ⟨by omega, by omega⟩ ⟨by omega, by omega⟩ ⟨by omega, by omega⟩ (by omega) (by omega) (by omega) (by omega))
  | false =>
    have ub43 := pj_u0_leF b43
    refine pj_X_of (fun r h => pj_R_ifF rfl b43 h) ?_
    refine pj_X_of (fun r h => pj_R_to (G42, 25, [(4, .int (Int32.ofInt 1)), (3, .int (Int32.ofInt 1)), (2, .int y36), (0, .ref 171), (1, .int is)], [], 0, 0) 25 4 (fun _ => rfl) h) ?_
    have q46 : (pj_fi G42 171 22).toInt = (Int32.ofInt 0).toInt := by rw [show pj_fi G42 171 22 = Int32.ofInt 0 from by rw [hG42]; exact pj_fi_wi iG37.1 (ci := 12) rfl _]
    have q47 : (pj_fi G42 171 5).toInt = y41.toInt := by rw [show pj_fi G42 171 5 = y41 from by rw [hG42, pj_fi_wv_ne _ _ _ _ _ _ (by decide)]; exact hy41.symm]
    exact pj_X_sub [(0, .ref 171), (1, .int is), (2, .int y36), (3, .int (Int32.ofInt 1)), (4, .int (Int32.ofInt 1))] (show List.Nodup [0, 1, 2, 3, 4] by decide) ⟨rfl, rfl, rfl, rfl, rfl, trivial⟩ ((lp_ct_194_1 G0 hI is ris 301) G42 iG42 kG42 y36 (Int32.ofInt 1) (Int32.ofInt 1) ⟨by omega, by omega⟩ ⟨by omega, by omega⟩ ⟨by omega, by omega⟩ (by omega) (by omega) (by omega) (by omega))
def kc_193_0 : pj_KT := ([(171, 17), (171, 22)], [171, 181], [181])
theorem ct_193_0 (G0 : pj_G) (hI : pj_Inv G0) (is : Int32) (ris : (0 : Int) ≤ is.toInt ∧ is.toInt ≤ 0) (p0_ : (pj_fi G0 171 6).toInt + (pj_fi G0 171 22).toInt ≤ 6) : pj_Y 17 193 [.ref 171, .int is] G0 (fun v G' => ∃ y : Int32, v = some (.int y) ∧ pj_Inv G' ∧ pj_kpt kc_193_0 G0 G' ∧ ((0 : Int) ≤ y.toInt ∧ y.toInt ≤ 1) ∧ (((pj_fi G0 171 22).toInt ≤ (pj_fi G' 171 22).toInt ∧ (pj_fi G' 171 22).toInt ≤ (pj_fi G0 171 22).toInt + 1 ∧ (pj_fi G' 171 6).toInt + (pj_fi G' 171 22).toInt ≤ 6) ∧ (1 ≤ y.toInt → (pj_fi G' 171 22).toInt = (pj_fi G0 171 22).toInt + 1 ∧ (pj_re G0 (pj_fi G0 171 22).toInt → pj_re G' (pj_fi G' 171 22).toInt)))) := by
  have c0_ : ((Int8.ofInt 6).toInt32).toInt = 6 := by decide
  have c1_ : (Int32.ofInt 0).toInt = 0 := by decide
  have c2_ : (Int32.ofInt 1).toInt = 1 := by decide
  have c3_ : (Int32.ofInt 2).toInt = 2 := by decide
  refine pj_Y_X (M := pj_m193) rfl rfl (Nat.le_of_ble_eq_true rfl) ?_
  have hK : pj_kpt kc_193_0 G0 G0 := pj_kpt_r _ _
  show pj_X _ _ G0 0 [(0, .ref 171), (1, .int is)] [] _
  obtain ⟨y1, hy1⟩ : ∃ z : Int32, z = pj_fi G0 171 22 := ⟨_, rfl⟩
  have ey1 : (pj_fi G0 171 22).toInt = y1.toInt := by rw [hy1]
  have ry1 : (0 : Int) ≤ y1.toInt ∧ y1.toInt ≤ 10 := by rw [hy1]; exact hI.2.1 171 22 (0, 10) rfl
  obtain ⟨y2, hy2⟩ : ∃ z : Int32, z = pj_fi G0 171 6 := ⟨_, rfl⟩
  have ey2 : (pj_fi G0 171 6).toInt = y2.toInt := by rw [hy2]
  have ry2 : (0 : Int) ≤ y2.toInt ∧ y2.toInt ≤ 6 := by rw [hy2]; exact hI.2.1 171 6 (0, 6) rfl
  obtain ⟨y3, hy3⟩ : ∃ z : Int32, z = pj_fi G0 171 3 := ⟨_, rfl⟩
  have ey3 : (pj_fi G0 171 3).toInt = y3.toInt := by rw [hy3]
  have ry3 : (0 : Int) ≤ y3.toInt ∧ y3.toInt ≤ 8 := by rw [hy3]; exact hI.2.1 171 3 (0, 8) rfl
  refine pj_X_of (fun r h => pj_R_to (G0, 1, [(0, .ref 171), (1, .int is)], [.int is], 0, 0) 1 2 (fun _ => rfl) h) ?_
  refine pj_X_of (fun r h => pj_R_ifT 11 rfl rfl (pj_b0_eqT (by omega)) h) ?_
  refine pj_X_of (fun r h => pj_R_to (G0, 12, [(0, .ref 171), (1, .int is)], [.ref 171], 0, 0) 12 2 (fun _ => rfl) h) ?_
  refine pj_X_of (fun r h => pj_T_gi hI rfl rfl h) ?_
  show pj_X _ _ G0 15 [(0, .ref 171), (1, .int is)] [.int (pj_fi G0 171 6)] _
  refine pj_X_eqi (show pj_fi G0 171 6 = y2 from hy2.symm) ?_
  refine pj_X_of (fun r h => pj_R_to (G0, 18, [(2, .int y2), (0, .ref 171), (1, .int is)], [.ref 171, .int y2], 0, 0) 18 4 (fun _ => rfl) h) ?_
  refine pj_X_of (fun r h => pj_T_gi hI rfl rfl h) ?_
  show pj_X _ _ G0 21 [(2, .int y2), (0, .ref 171), (1, .int is)] [.int (pj_fi G0 171 22), .int y2] _
  refine pj_X_eqi (show pj_fi G0 171 22 = y1 from hy1.symm) ?_
  refine pj_X_of (fun r h => pj_R_to (G0, 22, [(2, .int y2), (0, .ref 171), (1, .int is)], [.int (y2 + y1)], 0, 0) 22 2 (fun _ => rfl) h) ?_
  obtain ⟨z4, hz4⟩ : ∃ z : Int32, z = y2 + y1 := ⟨_, rfl⟩
  refine pj_X_eqi hz4.symm ?_
  have fz4_0 : z4.toInt = y2.toInt + y1.toInt := by rw [hz4]; exact pj_addI (by have := pj_i32 y2; have := pj_i32 y1; omega) (by have := pj_i32 y2; have := pj_i32 y1; omega)
  refine pj_X_of (fun r h => pj_R_to (G0, 23, [(2, .int y2), (0, .ref 171), (1, .int is)], [.int is, .int z4], 0, 0) 23 2 (fun _ => rfl) h) ?_
  refine pj_X_of (fun r h => pj_R_ifT 31 rfl rfl (pj_b0_eqT (by omega)) h) ?_
  refine pj_X_of (fun r h => pj_R_to (G0, 33, [(2, .int y2), (0, .ref 171), (1, .int is)], [.int ((Int8.ofInt 6).toInt32), .int z4], 0, 0) 33 2 (fun _ => rfl) h) ?_
  cases b5 : pj_c1 .ne z4 ((Int8.ofInt 6).toInt32) with
  | true =>
    have ub5 := pj_u_neT b5
    refine pj_X_of (fun r h => pj_R_icT 38 rfl rfl b5 h) ?_
    refine pj_X_of (fun r h => pj_R_to (G0, 40, [(2, .int y2), (0, .ref 171), (1, .int is)], [.ref 171, .int (Int32.ofInt 2)], 0, 0) 40 3 (fun _ => rfl) h) ?_
    refine pj_X_of (fun r h => pj_T_gi hI rfl rfl h) ?_
    show pj_X _ _ G0 43 [(2, .int y2), (0, .ref 171), (1, .int is)] [.int (pj_fi G0 171 22), .int (Int32.ofInt 2)] _
    refine pj_X_eqi (show pj_fi G0 171 22 = y1 from hy1.symm) ?_
    refine pj_X_of (fun r h => pj_R_to (G0, 44, [(2, .int y2), (0, .ref 171), (1, .int is)], [.int ((Int32.ofInt 2) * y1)], 0, 0) 44 2 (fun _ => rfl) h) ?_
    obtain ⟨z6, hz6⟩ : ∃ z : Int32, z = (Int32.ofInt 2) * y1 := ⟨_, rfl⟩
    refine pj_X_eqi hz6.symm ?_
    have fz6_0 : z6.toInt = 2 * y1.toInt := by rw [hz6]; exact pj_mulL (by decide) (by omega) (by omega)
    refine pj_X_of (fun r h => pj_R_to (G0, 46, [(3, .int z6), (2, .int y2), (0, .ref 171), (1, .int is)], [.ref 171], 0, 0) 46 3 (fun _ => rfl) h) ?_
    refine pj_X_of (fun r h => pj_T_gr hI rfl rfl rfl h) ?_
    refine pj_X_of (fun r h => pj_R_to (G0, 51, [(3, .int z6), (2, .int y2), (0, .ref 171), (1, .int is)], [.int is, .int z6, .ref 181], 0, 0) 51 3 (fun _ => rfl) h) ?_
    refine pj_X_of (fun r h => pj_R_ifT 65 rfl rfl (pj_b0_eqT (by omega)) h) ?_
    refine pj_X_of (fun r h => pj_R_to (G0, 67, [(3, .int z6), (2, .int y2), (0, .ref 171), (1, .int is)], [.ref 171, .ref 171, .int z6, .ref 181], 0, 0) 67 3 (fun _ => rfl) h) ?_
    refine pj_X_of (fun r h => pj_T_gi hI rfl rfl h) ?_
    show pj_X _ _ G0 70 [(3, .int z6), (2, .int y2), (0, .ref 171), (1, .int is)] [.int (pj_fi G0 171 3), .ref 171, .int z6, .ref 181] _
    refine pj_X_eqi (show pj_fi G0 171 3 = y3 from hy3.symm) ?_
    have q7 : (pj_fi G0 171 22).toInt = y1.toInt := by rw [show pj_fi G0 171 22 = y1 from hy1.symm]
    have q8 : (pj_fi G0 171 6).toInt = y2.toInt := by rw [show pj_fi G0 171 6 = y2 from hy2.symm]
    have q9 : (pj_fi G0 171 3).toInt = y3.toInt := by rw [show pj_fi G0 171 3 = y3 from hy3.symm]
    refine pj_X_ca (vs := [.ref 171, .int y3]) rfl (fun _ => rfl) ⟨Nat.le_of_ble_eq_true rfl, Nat.le_of_ble_eq_true rfl, pj_T_rcv hI rfl⟩ ⟨rfl, rfl⟩ (pj_Y_up (by decide) (ct_187 G0 hI y3 ⟨by omega, by omega⟩)) ?_
    rintro _ G11 ⟨y10, rfl, iG11, jG11, ry10, ey10⟩
    have kG11 : pj_kpt kc_193_0 G0 G11 := pj_kpt_t hK (pj_kpt_s jG11 rfl)
    have q12 : (pj_fi G11 171 22).toInt = (pj_fi G0 171 22).toInt := by rw [jG11.1 (171, 22) (by decide)]
    have q13 : (pj_fi G11 171 6).toInt = (pj_fi G0 171 6).toInt := by rw [jG11.1 (171, 6) (by decide)]
    have q14 : (pj_fi G11 171 3).toInt = (pj_fi G0 171 3).toInt := by rw [jG11.1 (171, 3) (by decide)]
    obtain ⟨y15, hy15⟩ : ∃ z : Int32, z = pj_fi G11 171 22 := ⟨_, rfl⟩
    have ey15 : (pj_fi G11 171 22).toInt = y15.toInt := by rw [hy15]
    have ry15 : (0 : Int) ≤ y15.toInt ∧ y15.toInt ≤ 10 := by rw [hy15]; exact iG11.2.1 171 22 (0, 10) rfl
    obtain ⟨y16, hy16⟩ : ∃ z : Int32, z = pj_fi G11 171 6 := ⟨_, rfl⟩
    have ey16 : (pj_fi G11 171 6).toInt = y16.toInt := by rw [hy16]
    have ry16 : (0 : Int) ≤ y16.toInt ∧ y16.toInt ≤ 6 := by rw [hy16]; exact iG11.2.1 171 6 (0, 6) rfl
    obtain ⟨y17, hy17⟩ : ∃ z : Int32, z = pj_fi G11 171 3 := ⟨_, rfl⟩
    have ey17 : (pj_fi G11 171 3).toInt = y17.toInt := by rw [hy17]
    have ry17 : (0 : Int) ≤ y17.toInt ∧ y17.toInt ≤ 8 := by rw [hy17]; exact iG11.2.1 171 3 (0, 8) rfl
    show pj_X _ _ G11 73 [(3, .int z6), (2, .int y2), (0, .ref 171), (1, .int is)] [.int y10, .int z6, .ref 181] _
    refine pj_X_of (fun r h => pj_T_is iG11 rfl rfl (by omega) (by omega) h) ?_
    show pj_X _ _ (pj_wa G11 181 z6.toInt.toNat y10) 74 [(3, .int z6), (2, .int y2), (0, .ref 171), (1, .int is)] [] _
    obtain ⟨G18, hG18⟩ : ∃ H, H = pj_wa G11 181 z6.toInt.toNat y10 := ⟨_, rfl⟩
    have iG18 : pj_Inv G18 := by rw [hG18]; exact pj_Inv_wa iG11 rfl (fun q hq => by cases hq; exact ⟨by show (-1 : Int) ≤ _; omega, by show _ ≤ (99 : Int); omega, by show _ ≤ (-1 : Int) ∨ (-1 : Int) ≤ _; omega⟩) (fun n hn => by cases hn)
    have kG18 : pj_kpt kc_193_0 G0 G18 := by rw [hG18]; exact pj_kpt_a kG11 rfl
    rw [← hG18]
    refine pj_X_of (fun r h => pj_R_to (G18, 75, [(3, .int z6), (2, .int y2), (0, .ref 171), (1, .int is)], [.int is], 0, 0) 75 2 (fun _ => rfl) h) ?_
    refine pj_X_of (fun r h => pj_R_ifT 87 rfl rfl (pj_b0_eqT (by omega)) h) ?_
    refine pj_X_of (fun r h => pj_R_to (G18, 88, [(3, .int z6), (2, .int y2), (0, .ref 171), (1, .int is)], [.ref 171], 0, 0) 88 2 (fun _ => rfl) h) ?_
    refine pj_X_of (fun r h => pj_T_gr iG18 rfl rfl rfl h) ?_
    refine pj_X_of (fun r h => pj_R_to (G18, 92, [(3, .int z6), (2, .int y2), (0, .ref 171), (1, .int is)], [.int z6, .ref 181], 0, 0) 92 2 (fun _ => rfl) h) ?_
    refine pj_X_of (fun r h => pj_T_il iG18 rfl rfl (by omega) (by omega) h) ?_
    show pj_X _ _ G18 93 [(3, .int z6), (2, .int y2), (0, .ref 171), (1, .int is)] [.int (pj_ai G18 181 z6.toInt.toNat)] _
    obtain ⟨z19, hz19⟩ : ∃ z : Int32, z = pj_ai G18 181 z6.toInt.toNat := ⟨_, rfl⟩
    refine pj_X_eqi hz19.symm ?_
    have ez19 : (pj_ai G18 181 z6.toInt.toNat).toInt = z19.toInt := by rw [hz19]
    have fz19_0 : (-1 : Int) ≤ z19.toInt ∧ z19.toInt ≤ 99 ∧ (z19.toInt ≤ -1 ∨ -1 ≤ z19.toInt) := by rw [hz19]; exact iG18.2.2.1 181 (40, -1, 99, -1, -1) rfl _ (by show _ < 40; omega)
    have x20 : z19.toInt = y10.toInt := by rw [hz19, show z6.toInt.toNat = z6.toInt.toNat by omega, hG18, pj_ai_wa_eq iG11.1 rfl]
    cases b21 : pj_c1 .ge z19 0 with
    | true =>
      have ub21 := pj_u0_geT b21
      refine pj_X_of (fun r h => pj_R_ifT 98 rfl rfl b21 h) ?_
      refine pj_X_of (fun r h => pj_R_to (G18, 99, [(3, .int z6), (2, .int y2), (0, .ref 171), (1, .int is)], [.ref 171], 0, 0) 99 2 (fun _ => rfl) h) ?_
      refine pj_X_of (fun r h => pj_T_gr iG18 rfl rfl rfl h) ?_
      refine pj_X_of (fun r h => pj_R_to (G18, 105, [(3, .int z6), (2, .int y2), (0, .ref 171), (1, .int is)], [.int (z6 + (Int32.ofInt 1)), .ref 181], 0, 0) 105 4 (fun _ => rfl) h) ?_
      obtain ⟨z22, hz22⟩ : ∃ z : Int32, z = z6 + (Int32.ofInt 1) := ⟨_, rfl⟩
      refine pj_X_eqi hz22.symm ?_
      have fz22_0 : z22.toInt = z6.toInt + (Int32.ofInt 1).toInt := by rw [hz22]; exact pj_addI (by have := pj_i32 z6; have := pj_i32 (Int32.ofInt 1); omega) (by have := pj_i32 z6; have := pj_i32 (Int32.ofInt 1); omega)
      refine pj_X_of (fun r h => pj_R_to (G18, 106, [(3, .int z6), (2, .int y2), (0, .ref 171), (1, .int is)], [.int is, .int z22, .ref 181], 0, 0) 106 2 (fun _ => rfl) h) ?_
      refine pj_X_of (fun r h => pj_R_ifT 117 rfl rfl (pj_b0_eqT (by omega)) h) ?_
      refine pj_X_of (fun r h => pj_R_to (G18, 121, [(3, .int z6), (2, .int y2), (0, .ref 171), (1, .int is)], [.retAddr 9, .ref 171, .int (Int32.ofInt 1), .int z22, .ref 181], 0, 0) 121 4 (fun _ => rfl) h) ?_
      have q23 : (pj_fi G18 171 22).toInt = y15.toInt := by rw [show pj_fi G18 171 22 = y15 from by rw [hG18, pj_fi_wa]; exact hy15.symm]
      have q24 : (pj_fi G18 171 6).toInt = y16.toInt := by rw [show pj_fi G18 171 6 = y16 from by rw [hG18, pj_fi_wa]; exact hy16.symm]
      have q25 : (pj_fi G18 171 3).toInt = y17.toInt := by rw [show pj_fi G18 171 3 = y17 from by rw [hG18, pj_fi_wa]; exact hy17.symm]
      refine pj_X_ca (vs := [.ref 171, .retAddr 9]) rfl (fun _ => rfl) ⟨Nat.le_of_ble_eq_true rfl, Nat.le_of_ble_eq_true rfl, pj_T_rcv iG18 rfl⟩ ⟨rfl, rfl⟩ (pj_Y_up (by decide) (ct_185_s9 G18 iG18)) ?_
      rintro _ G27 ⟨y26, rfl, iG27, jG27, ry26, ey26⟩
      have kG27 : pj_kpt kc_193_0 G0 G27 := pj_kpt_t kG18 (pj_kpt_s jG27 rfl)
      have q28 : (pj_fi G27 171 22).toInt = (pj_fi G18 171 22).toInt := by rw [jG27.1 (171, 22) (by decide)]
      have q29 : (pj_fi G27 171 6).toInt = (pj_fi G18 171 6).toInt := by rw [jG27.1 (171, 6) (by decide)]
      have q30 : (pj_fi G27 171 3).toInt = (pj_fi G18 171 3).toInt := by rw [jG27.1 (171, 3) (by decide)]
      obtain ⟨y31, hy31⟩ : ∃ z : Int32, z = pj_fi G27 171 22 := ⟨_, rfl⟩
      have ey31 : (pj_fi G27 171 22).toInt = y31.toInt := by rw [hy31]
      have ry31 : (0 : Int) ≤ y31.toInt ∧ y31.toInt ≤ 10 := by rw [hy31]; exact iG27.2.1 171 22 (0, 10) rfl
      obtain ⟨y32, hy32⟩ : ∃ z : Int32, z = pj_fi G27 171 6 := ⟨_, rfl⟩
      have ey32 : (pj_fi G27 171 6).toInt = y32.toInt := by rw [hy32]
      have ry32 : (0 : Int) ≤ y32.toInt ∧ y32.toInt ≤ 6 := by rw [hy32]; exact iG27.2.1 171 6 (0, 6) rfl
      obtain ⟨y33, hy33⟩ : ∃ z : Int32, z = pj_fi G27 171 3 := ⟨_, rfl⟩
      have ey33 : (pj_fi G27 171 3).toInt = y33.toInt := by rw [hy33]
      have ry33 : (0 : Int) ≤ y33.toInt ∧ y33.toInt ≤ 8 := by rw [hy33]; exact iG27.2.1 171 3 (0, 8) rfl
      show pj_X _ _ G27 124 [(3, .int z6), (2, .int y2), (0, .ref 171), (1, .int is)] [.int y26, .int (Int32.ofInt 1), .int z22, .ref 181] _
      refine pj_X_of (fun r h => pj_R_to (G27, 125, [(3, .int z6), (2, .int y2), (0, .ref 171), (1, .int is)], [.int ((Int32.ofInt 1) + y26), .int z22, .ref 181], 0, 0) 125 2 (fun _ => rfl) h) ?_
      obtain ⟨z34, hz34⟩ : ∃ z : Int32, z = (Int32.ofInt 1) + y26 := ⟨_, rfl⟩
      refine pj_X_eqi hz34.symm ?_
      have fz34_0 : z34.toInt = (Int32.ofInt 1).toInt + y26.toInt := by rw [hz34]; exact pj_addI (by have := pj_i32 (Int32.ofInt 1); have := pj_i32 y26; omega) (by have := pj_i32 (Int32.ofInt 1); have := pj_i32 y26; omega)
      refine pj_X_of (fun r h => pj_T_is iG27 rfl rfl (by omega) (by omega) h) ?_
      show pj_X _ _ (pj_wa G27 181 z22.toInt.toNat z34) 126 [(3, .int z6), (2, .int y2), (0, .ref 171), (1, .int is)] [] _
      obtain ⟨G35, hG35⟩ : ∃ H, H = pj_wa G27 181 z22.toInt.toNat z34 := ⟨_, rfl⟩
      have iG35 : pj_Inv G35 := by rw [hG35]; exact pj_Inv_wa iG27 rfl (fun q hq => by cases hq; exact ⟨by show (-1 : Int) ≤ _; omega, by show _ ≤ (99 : Int); omega, by show _ ≤ (-1 : Int) ∨ (-1 : Int) ≤ _; omega⟩) (fun n hn => by cases hn)
      have kG35 : pj_kpt kc_193_0 G0 G35 := by rw [hG35]; exact pj_kpt_a kG27 rfl
      rw [← hG35]
      refine pj_X_of (fun r h => pj_R_to (G35, 128, [(3, .int z6), (2, .int y2), (0, .ref 171), (1, .int is)], [.ref 171, .ref 171], 0, 0) 128 3 (fun _ => rfl) h) ?_
      refine pj_X_of (fun r h => pj_T_gi iG35 rfl rfl h) ?_
      show pj_X _ _ G35 131 [(3, .int z6), (2, .int y2), (0, .ref 171), (1, .int is)] [.int (pj_fi G35 171 22), .ref 171] _
      refine pj_X_eqi (show pj_fi G35 171 22 = y31 from by rw [hG35, pj_fi_wa]; exact hy31.symm) ?_
      refine pj_X_of (fun r h => pj_R_to (G35, 133, [(3, .int z6), (2, .int y2), (0, .ref 171), (1, .int is)], [.int (y31 + (Int32.ofInt 1)), .ref 171], 0, 0) 133 3 (fun _ => rfl) h) ?_
      obtain ⟨z36, hz36⟩ : ∃ z : Int32, z = y31 + (Int32.ofInt 1) := ⟨_, rfl⟩
      refine pj_X_eqi hz36.symm ?_
      have fz36_0 : z36.toInt = y31.toInt + (Int32.ofInt 1).toInt := by rw [hz36]; exact pj_addI (by have := pj_i32 y31; have := pj_i32 (Int32.ofInt 1); omega) (by have := pj_i32 y31; have := pj_i32 (Int32.ofInt 1); omega)
      refine pj_X_of (fun r h => pj_T_pf iG35 rfl rfl rfl h) ?_
      show pj_X _ _ (pj_wv G35 171 22 (.int z36)) 136 [(3, .int z6), (2, .int y2), (0, .ref 171), (1, .int is)] [] _
      obtain ⟨G37, hG37⟩ : ∃ H, H = pj_wv G35 171 22 (.int z36) := ⟨_, rfl⟩
      have iG37 : pj_Inv G37 := by rw [hG37]; exact pj_Inv_wi iG35 (ci := 12) rfl (fun q hq => by cases hq; exact ⟨by show (0 : Int) ≤ _; omega, by show _ ≤ (10 : Int); omega⟩)
      have kG37 : pj_kpt kc_193_0 G0 G37 := by rw [hG37]; exact pj_kpt_v kG35 rfl
      rw [← hG37]
      refine pj_X_of (fun r h => pj_R_to (G37, 137, [(3, .int z6), (2, .int y2), (0, .ref 171), (1, .int is)], [.int is], 0, 0) 137 2 (fun _ => rfl) h) ?_
      refine pj_X_of (fun r h => pj_R_ifT 159 rfl rfl (pj_b0_eqT (by omega)) h) ?_
      refine pj_X_of (fun r h => pj_R_to (G37, 160, [(3, .int z6), (2, .int y2), (0, .ref 171), (1, .int is)], [.ref 171], 0, 0) 160 2 (fun _ => rfl) h) ?_
      refine pj_X_of (fun r h => pj_T_gr iG37 rfl rfl rfl h) ?_
      refine pj_X_of (fun r h => pj_R_to (G37, 166, [(3, .int z6), (2, .int y2), (0, .ref 171), (1, .int is)], [.int (z6 + (Int32.ofInt 1)), .ref 181], 0, 0) 166 4 (fun _ => rfl) h) ?_
      obtain ⟨z38, hz38⟩ : ∃ z : Int32, z = z6 + (Int32.ofInt 1) := ⟨_, rfl⟩
      refine pj_X_eqi hz38.symm ?_
      have fz38_0 : z38.toInt = z6.toInt + (Int32.ofInt 1).toInt := by rw [hz38]; exact pj_addI (by have := pj_i32 z6; have := pj_i32 (Int32.ofInt 1); omega) (by have := pj_i32 z6; have := pj_i32 (Int32.ofInt 1); omega)
      refine pj_X_of (fun r h => pj_T_il iG37 rfl rfl (by omega) (by omega) h) ?_
      show pj_X _ _ G37 167 [(3, .int z6), (2, .int y2), (0, .ref 171), (1, .int is)] [.int (pj_ai G37 181 z38.toInt.toNat)] _
      obtain ⟨z39, hz39⟩ : ∃ z : Int32, z = pj_ai G37 181 z38.toInt.toNat := ⟨_, rfl⟩
      refine pj_X_eqi hz39.symm ?_
      have ez39 : (pj_ai G37 181 z38.toInt.toNat).toInt = z39.toInt := by rw [hz39]
      have fz39_0 : (-1 : Int) ≤ z39.toInt ∧ z39.toInt ≤ 99 ∧ (z39.toInt ≤ -1 ∨ -1 ≤ z39.toInt) := by rw [hz39]; exact iG37.2.2.1 181 (40, -1, 99, -1, -1) rfl _ (by show _ < 40; omega)
      have x40 : z39.toInt = z34.toInt := by rw [hz39, hG37, pj_ai_wv, show z38.toInt.toNat = z22.toInt.toNat by omega, hG35, pj_ai_wa_eq iG27.1 rfl]
      cases b41 : pj_c1 .le z39 0 with
      | true =>
        have ub41 := pj_u0_leT b41
        refine pj_X_of (fun r h => pj_R_ifT 174 rfl rfl b41 h) ?_
        refine pj_X_of (fun r h => pj_R_to (G37, 175, [(3, .int z6), (2, .int y2), (0, .ref 171), (1, .int is)], [.int (Int32.ofInt 0)], 0, 0) 175 2 (fun _ => rfl) h) ?_
        have q42 : (pj_fi G37 171 22).toInt = z36.toInt := by rw [show pj_fi G37 171 22 = z36 from by rw [hG37]; exact pj_fi_wi iG35.1 (ci := 12) rfl _]
        have q43 : (pj_fi G37 171 6).toInt = y32.toInt := by rw [show pj_fi G37 171 6 = y32 from by rw [hG37, pj_fi_wv_ne _ _ _ _ _ _ (by decide)]; exact (by rw [hG35, pj_fi_wa]; exact hy32.symm)]
        have q44 : (pj_fi G37 171 3).toInt = y33.toInt := by rw [show pj_fi G37 171 3 = y33 from by rw [hG37, pj_fi_wv_ne _ _ _ _ _ _ (by decide)]; exact (by rw [hG35, pj_fi_wa]; exact hy33.symm)]
        exact pj_X_rt rfl rfl ⟨_, rfl, iG37, kG37, ⟨by omega, by omega⟩, ⟨by omega, fun q => absurd q (by omega)⟩⟩
      | false =>
        have ub41 := pj_u0_leF b41
        refine pj_X_of (fun r h => pj_R_ifF rfl b41 h) ?_
        refine pj_X_of (fun r h => pj_R_to (G37, 175, [(3, .int z6), (2, .int y2), (0, .ref 171), (1, .int is)], [.int (Int32.ofInt 1)], 0, 0) 175 3 (fun _ => rfl) h) ?_
        have q45 : (pj_fi G37 171 22).toInt = z36.toInt := by rw [show pj_fi G37 171 22 = z36 from by rw [hG37]; exact pj_fi_wi iG35.1 (ci := 12) rfl _]
        have q46 : (pj_fi G37 171 6).toInt = y32.toInt := by rw [show pj_fi G37 171 6 = y32 from by rw [hG37, pj_fi_wv_ne _ _ _ _ _ _ (by decide)]; exact (by rw [hG35, pj_fi_wa]; exact hy32.symm)]
        have q47 : (pj_fi G37 171 3).toInt = y33.toInt := by rw [show pj_fi G37 171 3 = y33 from by rw [hG37, pj_fi_wv_ne _ _ _ _ _ _ (by decide)]; exact (by rw [hG35, pj_fi_wa]; exact hy33.symm)]
        have hv0 : (pj_ai G37 181 (2 * y1.toInt.toNat)).toInt = y10.toInt := by rw [show 2 * y1.toInt.toNat = z6.toInt.toNat by omega, hG37, pj_ai_wv, hG35, pj_ai_wa_nj _ _ _ _ _ (by omega), jG27.2.2 181 (by decide), hG18, pj_ai_wa_eq iG11.1 rfl]
        have hold : ∀ j : Nat, j < 2 * y1.toInt.toNat → pj_ai G37 181 j = pj_ai G0 181 j := fun j hj => by rw [hG37, pj_ai_wv, hG35, pj_ai_wa_nj _ _ _ _ _ (by omega), jG27.2.2 181 (by decide), hG18, pj_ai_wa_nj _ _ _ _ _ (by omega), jG11.2.2 181 (by decide)]
        exact pj_X_rt rfl rfl ⟨_, rfl, iG37, kG37, ⟨by omega, by omega⟩, ⟨by omega, fun _ => ⟨by omega, fun q => by rw [show (pj_fi G37 171 22).toInt = (pj_fi G0 171 22).toInt + 1 by omega]; exact pj_re_s q y1.toInt.toNat (by omega) hold (by omega)⟩⟩⟩
    | false =>
      have ub21 := pj_u0_geF b21
      refine pj_X_of (fun r h => pj_R_ifF rfl b21 h) ?_
      refine pj_X_of (fun r h => pj_R_to (G18, 97, [(3, .int z6), (2, .int y2), (0, .ref 171), (1, .int is)], [.int (Int32.ofInt 0)], 0, 0) 97 2 (fun _ => rfl) h) ?_
      have q48 : (pj_fi G18 171 22).toInt = y15.toInt := by rw [show pj_fi G18 171 22 = y15 from by rw [hG18, pj_fi_wa]; exact hy15.symm]
      have q49 : (pj_fi G18 171 6).toInt = y16.toInt := by rw [show pj_fi G18 171 6 = y16 from by rw [hG18, pj_fi_wa]; exact hy16.symm]
      have q50 : (pj_fi G18 171 3).toInt = y17.toInt := by rw [show pj_fi G18 171 3 = y17 from by rw [hG18, pj_fi_wa]; exact hy17.symm]
      exact pj_X_rt rfl rfl ⟨_, rfl, iG18, kG18, ⟨by omega, by omega⟩, ⟨by omega, fun q => absurd q (by omega)⟩⟩
  | false =>
    have ub5 := pj_u_neF b5
    refine pj_X_of (fun r h => pj_R_icF rfl b5 h) ?_
    refine pj_X_of (fun r h => pj_R_to (G0, 37, [(2, .int y2), (0, .ref 171), (1, .int is)], [.int (Int32.ofInt 0)], 0, 0) 37 2 (fun _ => rfl) h) ?_
    have q51 : (pj_fi G0 171 22).toInt = y1.toInt := by rw [show pj_fi G0 171 22 = y1 from hy1.symm]
    have q52 : (pj_fi G0 171 6).toInt = y2.toInt := by rw [show pj_fi G0 171 6 = y2 from hy2.symm]
    have q53 : (pj_fi G0 171 3).toInt = y3.toInt := by rw [show pj_fi G0 171 3 = y3 from hy3.symm]
    exact pj_X_rt rfl rfl ⟨_, rfl, hI, hK, ⟨by omega, by omega⟩, ⟨by omega, fun q => absurd q (by omega)⟩⟩
def kc_194_0 : pj_KT := ([(171, 16), (171, 17), (171, 18), (171, 19), (171, 22)], [171, 181], [181])
theorem lp_ct_194_0 (G0 : pj_G) (hI0 : pj_Inv G0) (is : Int32) (ris : (0 : Int) ≤ is.toInt ∧ is.toInt ≤ 0) : ∀ mn : Nat, (∀ (G : pj_G) (hI : pj_Inv G) (hK : pj_kpt kc_194_0 G0 G) (v2 : Int32) (v3 : Int32) (v4 : Int32), ((0 : Int) ≤ v2.toInt ∧ v2.toInt ≤ 80) → ((0 : Int) ≤ v3.toInt ∧ v3.toInt ≤ 1) → ((0 : Int) ≤ v4.toInt ∧ v4.toInt ≤ 1) → (1 ≤ v3.toInt → pj_re G (pj_fi G 171 22).toInt) → ((pj_fi G 171 22).toInt ≤ 6) → ((pj_fi G 171 6).toInt + (pj_fi G 171 22).toInt ≤ 6) → (1 ≤ v4.toInt → 1 ≤ v3.toInt) → 20 * (7 - (pj_fi G 171 22).toInt) + 10 * v4.toInt < (mn : Int) → pj_X 18 pj_m194 G 25 [(0, .ref 171), (1, .int is), (2, .int v2), (3, .int v3), (4, .int v4)] [] (fun v G' => ∃ y : Int32, v = some (.int y) ∧ pj_Inv G' ∧ pj_kpt kc_194_0 G0 G' ∧ ((-81 : Int) ≤ y.toInt ∧ y.toInt ≤ 0) ∧ ((pj_fi G' 171 6).toInt + (pj_fi G' 171 22).toInt ≤ 6 ∧ (0 ≤ y.toInt → pj_re G' (pj_fi G' 171 22).toInt)))) := by
  have c0_ : ((Int8.ofInt 17).toInt32).toInt = 17 := by decide
  have c1_ : ((Int8.ofInt 59).toInt32).toInt = 59 := by decide
  have c2_ : (Int32.ofInt 0).toInt = 0 := by decide
  have c3_ : (Int32.ofInt 1).toInt = 1 := by decide
  intro mn
  induction mn with
  | zero =>
    intro G hI hK v2 v3 v4 rv2 rv3 rv4 x0_ x1_ x2_ x3_ hm
    exfalso
    omega
  | succ mn ih =>
    intro G hI hK v2 v3 v4 rv2 rv3 rv4 x0_ x1_ x2_ x3_ hm
    obtain ⟨y1, hy1⟩ : ∃ z : Int32, z = pj_fi G 171 22 := ⟨_, rfl⟩
    have ey1 : (pj_fi G 171 22).toInt = y1.toInt := by rw [hy1]
    have ry1 : (0 : Int) ≤ y1.toInt ∧ y1.toInt ≤ 10 := by rw [hy1]; exact hI.2.1 171 22 (0, 10) rfl
    obtain ⟨y2, hy2⟩ : ∃ z : Int32, z = pj_fi G 171 6 := ⟨_, rfl⟩
    have ey2 : (pj_fi G 171 6).toInt = y2.toInt := by rw [hy2]
    have ry2 : (0 : Int) ≤ y2.toInt ∧ y2.toInt ≤ 6 := by rw [hy2]; exact hI.2.1 171 6 (0, 6) rfl
    refine pj_X_of (fun r h => pj_R_to (G, 27, [(0, .ref 171), (1, .int is), (2, .int v2), (3, .int v3), (4, .int v4)], [.int v4], 0, 0) 27 2 (fun _ => rfl) h) ?_
    cases b3 : pj_c1 .eq v4 0 with
    | true =>
      have ub3 := pj_u0_eqT b3
      refine pj_X_of (fun r h => pj_R_ifT 59 rfl rfl b3 h) ?_
      refine pj_X_of (fun r h => pj_R_to (G, 64, [(0, .ref 171), (1, .int is), (2, .int v2), (3, .int v3), (4, .int v4)], [.int v3, .int ((Int8.ofInt 17).toInt32), .int v2, .ref 171], 0, 0) 64 5 (fun _ => rfl) h) ?_
      have q4 : (pj_fi G 171 22).toInt = y1.toInt := by rw [show pj_fi G 171 22 = y1 from hy1.symm]
      have q5 : (pj_fi G 171 6).toInt = y2.toInt := by rw [show pj_fi G 171 6 = y2 from hy2.symm]
      refine pj_X_ca (vs := [.ref 171, .int v2, .int ((Int8.ofInt 17).toInt32), .int v3]) rfl (fun _ => rfl) ⟨Nat.le_of_ble_eq_true rfl, Nat.le_of_ble_eq_true rfl, pj_T_rcv hI rfl⟩ ⟨rfl, rfl⟩ (pj_Y_up (by decide) (ct_188 G hI v2 ((Int8.ofInt 17).toInt32) v3 ⟨by omega, by omega⟩ ⟨by omega, by omega⟩ ⟨by omega, by omega⟩)) ?_
      rintro _ _ ⟨y6, rfl, rfl, ry6, ey6⟩
      show pj_X _ _ G 67 [(0, .ref 171), (1, .int is), (2, .int v2), (3, .int v3), (4, .int v4)] [.int y6] _
      have q7 : (pj_fi G 171 22).toInt = y1.toInt := by rw [show pj_fi G 171 22 = y1 from hy1.symm]
      have q8 : (pj_fi G 171 6).toInt = y2.toInt := by rw [show pj_fi G 171 6 = y2 from hy2.symm]
      exact pj_X_rt rfl rfl ⟨_, rfl, hI, hK, ⟨by omega, by omega⟩, ⟨by omega, fun q => x0_ (by omega)⟩⟩
    | false =>
      have ub3 := pj_u0_eqF b3
      refine pj_X_of (fun r h => pj_R_ifF rfl b3 h) ?_
      refine pj_X_of (fun r h => pj_R_to (G, 32, [(0, .ref 171), (1, .int is), (2, .int v2), (3, .int v3), (4, .int v4)], [.int is, .ref 171], 0, 0) 32 3 (fun _ => rfl) h) ?_
      have q9 : (pj_fi G 171 22).toInt = y1.toInt := by rw [show pj_fi G 171 22 = y1 from hy1.symm]
      have q10 : (pj_fi G 171 6).toInt = y2.toInt := by rw [show pj_fi G 171 6 = y2 from hy2.symm]
      refine pj_X_ca (vs := [.ref 171, .int is]) rfl (fun _ => rfl) ⟨Nat.le_of_ble_eq_true rfl, Nat.le_of_ble_eq_true rfl, pj_T_rcv hI rfl⟩ ⟨rfl, rfl⟩ (pj_Y_up (by decide) (ct_193_0 G hI is ⟨by omega, by omega⟩ (by omega))) ?_
      rintro _ G12 ⟨y11, rfl, iG12, jG12, ry11, ey11⟩
      have kG12 : pj_kpt kc_194_0 G0 G12 := pj_kpt_t hK (pj_kpt_s jG12 rfl)
      have q13 : (pj_fi G12 171 6).toInt = (pj_fi G 171 6).toInt := by rw [jG12.1 (171, 6) (by decide)]
      obtain ⟨y14, hy14⟩ : ∃ z : Int32, z = pj_fi G12 171 22 := ⟨_, rfl⟩
      have ey14 : (pj_fi G12 171 22).toInt = y14.toInt := by rw [hy14]
      have ry14 : (0 : Int) ≤ y14.toInt ∧ y14.toInt ≤ 10 := by rw [hy14]; exact iG12.2.1 171 22 (0, 10) rfl
      obtain ⟨y15, hy15⟩ : ∃ z : Int32, z = pj_fi G12 171 6 := ⟨_, rfl⟩
      have ey15 : (pj_fi G12 171 6).toInt = y15.toInt := by rw [hy15]
      have ry15 : (0 : Int) ≤ y15.toInt ∧ y15.toInt ≤ 6 := by rw [hy15]; exact iG12.2.1 171 6 (0, 6) rfl
      show pj_X _ _ G12 35 [(0, .ref 171), (1, .int is), (2, .int v2), (3, .int v3), (4, .int v4)] [.int y11] _
      refine pj_X_of (fun r h => pj_R_to (G12, 37, [(3, .int y11), (0, .ref 171), (1, .int is), (2, .int v2), (4, .int v4)], [.int y11], 0, 0) 37 3 (fun _ => rfl) h) ?_
      cases b16 : pj_c1 .eq y11 0 with
      | true =>
        have ub16 := pj_u0_eqT b16
        refine pj_X_of (fun r h => pj_R_ifT 53 rfl rfl b16 h) ?_
        refine pj_X_of (fun r h => pj_R_to (G12, 25, [(4, .int (Int32.ofInt 0)), (3, .int y11), (0, .ref 171), (1, .int is), (2, .int v2)], [], 0, 0) 25 4 (fun _ => rfl) h) ?_
        have q17 : (pj_fi G12 171 22).toInt = y14.toInt := by rw [show pj_fi G12 171 22 = y14 from hy14.symm]
        have q18 : (pj_fi G12 171 6).toInt = y15.toInt := by rw [show pj_fi G12 171 6 = y15 from hy15.symm]
        exact pj_X_sub [(0, .ref 171), (1, .int is), (2, .int v2), (3, .int y11), (4, .int (Int32.ofInt 0))] (show List.Nodup [0, 1, 2, 3, 4] by decide) ⟨rfl, rfl, rfl, rfl, rfl, trivial⟩ (ih G12 iG12 kG12 v2 y11 (Int32.ofInt 0) ⟨by omega, by omega⟩ ⟨by omega, by omega⟩ ⟨by omega, by omega⟩ (fun q => (ey11.2 q).2 (x0_ (by omega))) (by omega) (by omega) (by omega) (by omega))
      | false =>
        have ub16 := pj_u0_eqF b16
        refine pj_X_of (fun r h => pj_R_ifF rfl b16 h) ?_
        refine pj_X_of (fun r h => pj_R_to (G12, 43, [(3, .int y11), (0, .ref 171), (1, .int is), (2, .int v2), (4, .int v4)], [.int ((Int8.ofInt 59).toInt32), .ref 171], 0, 0) 43 3 (fun _ => rfl) h) ?_
        have q19 : (pj_fi G12 171 22).toInt = y14.toInt := by rw [show pj_fi G12 171 22 = y14 from hy14.symm]
        have q20 : (pj_fi G12 171 6).toInt = y15.toInt := by rw [show pj_fi G12 171 6 = y15 from hy15.symm]
        refine pj_X_ca (vs := [.ref 171, .int ((Int8.ofInt 59).toInt32)]) rfl (fun _ => rfl) ⟨Nat.le_of_ble_eq_true rfl, Nat.le_of_ble_eq_true rfl, pj_T_rcv iG12 rfl⟩ ⟨rfl, rfl⟩ (pj_Y_up (by decide) (ct_182 G12 iG12 ((Int8.ofInt 59).toInt32) ⟨by omega, by omega⟩)) ?_
        rintro _ G22 ⟨y21, rfl, iG22, jG22, ry21, ey21⟩
        have kG22 : pj_kpt kc_194_0 G0 G22 := pj_kpt_t kG12 (pj_kpt_s jG22 rfl)
        have q23 : (pj_fi G22 171 22).toInt = (pj_fi G12 171 22).toInt := by rw [jG22.1 (171, 22) (by decide)]
        have q24 : (pj_fi G22 171 6).toInt = (pj_fi G12 171 6).toInt := by rw [jG22.1 (171, 6) (by decide)]
        obtain ⟨y25, hy25⟩ : ∃ z : Int32, z = pj_fi G22 171 22 := ⟨_, rfl⟩
        have ey25 : (pj_fi G22 171 22).toInt = y25.toInt := by rw [hy25]
        have ry25 : (0 : Int) ≤ y25.toInt ∧ y25.toInt ≤ 10 := by rw [hy25]; exact iG22.2.1 171 22 (0, 10) rfl
        obtain ⟨y26, hy26⟩ : ∃ z : Int32, z = pj_fi G22 171 6 := ⟨_, rfl⟩
        have ey26 : (pj_fi G22 171 6).toInt = y26.toInt := by rw [hy26]
        have ry26 : (0 : Int) ≤ y26.toInt ∧ y26.toInt ≤ 6 := by rw [hy26]; exact iG22.2.1 171 6 (0, 6) rfl
        show pj_X _ _ G22 46 [(3, .int y11), (0, .ref 171), (1, .int is), (2, .int v2), (4, .int v4)] [.int y21] _
        cases b27 : pj_c1 .eq y21 0 with
        | true =>
          have ub27 := pj_u0_eqT b27
          refine pj_X_of (fun r h => pj_R_ifT 53 rfl rfl b27 h) ?_
          refine pj_X_of (fun r h => pj_R_to (G22, 25, [(4, .int (Int32.ofInt 0)), (3, .int y11), (0, .ref 171), (1, .int is), (2, .int v2)], [], 0, 0) 25 4 (fun _ => rfl) h) ?_
          have q28 : (pj_fi G22 171 22).toInt = y25.toInt := by rw [show pj_fi G22 171 22 = y25 from hy25.symm]
          have q29 : (pj_fi G22 171 6).toInt = y26.toInt := by rw [show pj_fi G22 171 6 = y26 from hy26.symm]
          exact pj_X_sub [(0, .ref 171), (1, .int is), (2, .int v2), (3, .int y11), (4, .int (Int32.ofInt 0))] (show List.Nodup [0, 1, 2, 3, 4] by decide) ⟨rfl, rfl, rfl, rfl, rfl, trivial⟩ (ih G22 iG22 kG22 v2 y11 (Int32.ofInt 0) ⟨by omega, by omega⟩ ⟨by omega, by omega⟩ ⟨by omega, by omega⟩ (fun q => by rw [show pj_fi G22 171 22 = pj_fi G12 171 22 from by rw [jG22.1 (171, 22) (by decide)]]; exact pj_re_k (fun j => by rw [jG22.2.2 181 (by decide)]) ((ey11.2 (by omega)).2 (x0_ (by omega)))) (by omega) (by omega) (by omega) (by omega))
        | false =>
          have ub27 := pj_u0_eqF b27
          refine pj_X_of (fun r h => pj_R_ifF rfl b27 h) ?_
          refine pj_X_of (fun r h => pj_R_to (G22, 25, [(4, .int (Int32.ofInt 1)), (3, .int y11), (0, .ref 171), (1, .int is), (2, .int v2)], [], 0, 0) 25 5 (fun _ => rfl) h) ?_
          have q30 : (pj_fi G22 171 22).toInt = y25.toInt := by rw [show pj_fi G22 171 22 = y25 from hy25.symm]
          have q31 : (pj_fi G22 171 6).toInt = y26.toInt := by rw [show pj_fi G22 171 6 = y26 from hy26.symm]
          exact pj_X_sub [(0, .ref 171), (1, .int is), (2, .int v2), (3, .int y11), (4, .int (Int32.ofInt 1))] (show List.Nodup [0, 1, 2, 3, 4] by decide) ⟨rfl, rfl, rfl, rfl, rfl, trivial⟩ (ih G22 iG22 kG22 v2 y11 (Int32.ofInt 1) ⟨by omega, by omega⟩ ⟨by omega, by omega⟩ ⟨by omega, by omega⟩ (fun q => by rw [show pj_fi G22 171 22 = pj_fi G12 171 22 from by rw [jG22.1 (171, 22) (by decide)]]; exact pj_re_k (fun j => by rw [jG22.2.2 181 (by decide)]) ((ey11.2 (by omega)).2 (x0_ (by omega)))) (by omega) (by omega) (by omega) (by omega))
theorem ct_194_0 (G0 : pj_G) (hI : pj_Inv G0) (is : Int32) (ris : (0 : Int) ≤ is.toInt ∧ is.toInt ≤ 0) : pj_Y 19 194 [.ref 171, .int is] G0 (fun v G' => ∃ y : Int32, v = some (.int y) ∧ pj_Inv G' ∧ pj_kpt kc_194_0 G0 G' ∧ ((-81 : Int) ≤ y.toInt ∧ y.toInt ≤ 0) ∧ ((pj_fi G' 171 6).toInt + (pj_fi G' 171 22).toInt ≤ 6 ∧ (0 ≤ y.toInt → pj_re G' (pj_fi G' 171 22).toInt))) := by
  have c0_ : ((Int8.ofInt 17).toInt32).toInt = 17 := by decide
  have c1_ : ((Int8.ofInt 59).toInt32).toInt = 59 := by decide
  have c2_ : (Int32.ofInt 0).toInt = 0 := by decide
  have c3_ : (Int32.ofInt 1).toInt = 1 := by decide
  refine pj_Y_X (M := pj_m194) rfl rfl (Nat.le_of_ble_eq_true rfl) ?_
  have hK : pj_kpt kc_194_0 G0 G0 := pj_kpt_r _ _
  show pj_X _ _ G0 0 [(0, .ref 171), (1, .int is)] [] _
  obtain ⟨y32, hy32⟩ : ∃ z : Int32, z = pj_fi G0 171 22 := ⟨_, rfl⟩
  have ey32 : (pj_fi G0 171 22).toInt = y32.toInt := by rw [hy32]
  have ry32 : (0 : Int) ≤ y32.toInt ∧ y32.toInt ≤ 10 := by rw [hy32]; exact hI.2.1 171 22 (0, 10) rfl
  obtain ⟨y33, hy33⟩ : ∃ z : Int32, z = pj_fi G0 171 6 := ⟨_, rfl⟩
  have ey33 : (pj_fi G0 171 6).toInt = y33.toInt := by rw [hy33]
  have ry33 : (0 : Int) ≤ y33.toInt ∧ y33.toInt ≤ 6 := by rw [hy33]; exact hI.2.1 171 6 (0, 6) rfl
  refine pj_X_of (fun r h => pj_R_to (G0, 3, [(0, .ref 171), (1, .int is)], [.int ((Int8.ofInt 17).toInt32), .ref 171], 0, 0) 3 3 (fun _ => rfl) h) ?_
  have q34 : (pj_fi G0 171 22).toInt = y32.toInt := by rw [show pj_fi G0 171 22 = y32 from hy32.symm]
  have q35 : (pj_fi G0 171 6).toInt = y33.toInt := by rw [show pj_fi G0 171 6 = y33 from hy33.symm]
  refine pj_X_ca (vs := [.ref 171, .int ((Int8.ofInt 17).toInt32)]) rfl (fun _ => rfl) ⟨Nat.le_of_ble_eq_true rfl, Nat.le_of_ble_eq_true rfl, pj_T_rcv hI rfl⟩ ⟨rfl, rfl⟩ (pj_Y_up (by decide) (ct_181e G0 hI ((Int8.ofInt 17).toInt32) ⟨by omega, by omega⟩)) ?_
  rintro _ G37 ⟨y36, rfl, iG37, jG37, ry36, ey36⟩
  have kG37 : pj_kpt kc_194_0 G0 G37 := pj_kpt_t hK (pj_kpt_s jG37 rfl)
  have q38 : (pj_fi G37 171 22).toInt = (pj_fi G0 171 22).toInt := by rw [jG37.1 (171, 22) (by decide)]
  have q39 : (pj_fi G37 171 6).toInt = (pj_fi G0 171 6).toInt := by rw [jG37.1 (171, 6) (by decide)]
  obtain ⟨y40, hy40⟩ : ∃ z : Int32, z = pj_fi G37 171 22 := ⟨_, rfl⟩
  have ey40 : (pj_fi G37 171 22).toInt = y40.toInt := by rw [hy40]
  have ry40 : (0 : Int) ≤ y40.toInt ∧ y40.toInt ≤ 10 := by rw [hy40]; exact iG37.2.1 171 22 (0, 10) rfl
  obtain ⟨y41, hy41⟩ : ∃ z : Int32, z = pj_fi G37 171 6 := ⟨_, rfl⟩
  have ey41 : (pj_fi G37 171 6).toInt = y41.toInt := by rw [hy41]
  have ry41 : (0 : Int) ≤ y41.toInt ∧ y41.toInt ≤ 6 := by rw [hy41]; exact iG37.2.1 171 6 (0, 6) rfl
  show pj_X _ _ G37 6 [(0, .ref 171), (1, .int is)] [.int y36] _
  refine pj_X_of (fun r h => pj_R_to (G37, 9, [(2, .int y36), (0, .ref 171), (1, .int is)], [.int (Int32.ofInt 0), .ref 171], 0, 0) 9 4 (fun _ => rfl) h) ?_
  refine pj_X_of (fun r h => pj_T_pf iG37 rfl rfl rfl h) ?_
  show pj_X _ _ (pj_wv G37 171 22 (.int (Int32.ofInt 0))) 12 [(2, .int y36), (0, .ref 171), (1, .int is)] [] _
  obtain ⟨G42, hG42⟩ : ∃ H, H = pj_wv G37 171 22 (.int (Int32.ofInt 0)) := ⟨_, rfl⟩
  have iG42 : pj_Inv G42 := by rw [hG42]; exact pj_Inv_wi iG37 (ci := 12) rfl (fun q hq => by cases hq; exact ⟨by show (0 : Int) ≤ _; omega, by show _ ≤ (10 : Int); omega⟩)
  have kG42 : pj_kpt kc_194_0 G0 G42 := by rw [hG42]; exact pj_kpt_v kG37 rfl
  rw [← hG42]
  refine pj_X_of (fun r h => pj_R_to (G42, 15, [(3, .int (Int32.ofInt 1)), (2, .int y36), (0, .ref 171), (1, .int is)], [.int y36], 0, 0) 15 4 (fun _ => rfl) h) ?_
  cases b43 : pj_c1 .le y36 0 with
  | true =>
    have ub43 := pj_u0_leT b43
    refine pj_X_of (fun r h => pj_R_ifT 22 rfl rfl b43 h) ?_
    refine pj_X_of (fun r h => pj_R_to (G42, 25, [(4, .int (Int32.ofInt 0)), (3, .int (Int32.ofInt 1)), (2, .int y36), (0, .ref 171), (1, .int is)], [], 0, 0) 25 3 (fun _ => rfl) h) ?_
    have q44 : (pj_fi G42 171 22).toInt = (Int32.ofInt 0).toInt := by rw [show pj_fi G42 171 22 = Int32.ofInt 0 from by rw [hG42]; exact pj_fi_wi iG37.1 (ci := 12) rfl _]
    have q45 : (pj_fi G42 171 6).toInt = y41.toInt := by rw [show pj_fi G42 171 6 = y41 from by rw [hG42, pj_fi_wv_ne _ _ _ _ _ _ (by decide)]; exact hy41.symm]
    exact pj_X_sub [(0, .ref 171), (1, .int is), (2, .int y36), (3, .int (Int32.ofInt 1)), (4, .int (Int32.ofInt 0))] (show List.Nodup [0, 1, 2, 3, 4] by decide) ⟨rfl, rfl, rfl, rfl, rfl, trivial⟩ ((lp_ct_194_0 G0 hI is ris 301) G42 iG42 kG42 y36 (Int32.ofInt 1) (Int32.ofInt 0) ⟨by omega, by omega⟩ ⟨by omega, by omega⟩ ⟨by omega, by omega⟩ (fun _ => pj_re_0 (by omega)) (by omega) (by omega) (by omega) (by omega))
  | false =>
    have ub43 := pj_u0_leF b43
    refine pj_X_of (fun r h => pj_R_ifF rfl b43 h) ?_
    refine pj_X_of (fun r h => pj_R_to (G42, 25, [(4, .int (Int32.ofInt 1)), (3, .int (Int32.ofInt 1)), (2, .int y36), (0, .ref 171), (1, .int is)], [], 0, 0) 25 4 (fun _ => rfl) h) ?_
    have q46 : (pj_fi G42 171 22).toInt = (Int32.ofInt 0).toInt := by rw [show pj_fi G42 171 22 = Int32.ofInt 0 from by rw [hG42]; exact pj_fi_wi iG37.1 (ci := 12) rfl _]
    have q47 : (pj_fi G42 171 6).toInt = y41.toInt := by rw [show pj_fi G42 171 6 = y41 from by rw [hG42, pj_fi_wv_ne _ _ _ _ _ _ (by decide)]; exact hy41.symm]
    exact pj_X_sub [(0, .ref 171), (1, .int is), (2, .int y36), (3, .int (Int32.ofInt 1)), (4, .int (Int32.ofInt 1))] (show List.Nodup [0, 1, 2, 3, 4] by decide) ⟨rfl, rfl, rfl, rfl, rfl, trivial⟩ ((lp_ct_194_0 G0 hI is ris 301) G42 iG42 kG42 y36 (Int32.ofInt 1) (Int32.ofInt 1) ⟨by omega, by omega⟩ ⟨by omega, by omega⟩ ⟨by omega, by omega⟩ (fun _ => pj_re_0 (by omega)) (by omega) (by omega) (by omega) (by omega))
def kc_195 : pj_KT := ([(171, 0), (171, 5), (171, 7), (171, 16), (171, 17), (171, 18), (171, 19), (171, 22), (171, 30)], [171, 177, 179, 181], [177, 179, 181])
theorem lp_ct_195 (G0 : pj_G) (hI0 : pj_Inv G0) (p0_ : (pj_fi G0 171 30).toInt ≤ 15) : ∀ mn : Nat, (∀ (G : pj_G) (hI : pj_Inv G) (hK : pj_kpt kc_195 G0 G) (v1 : Int32) (v2 : Int32), ((-81 : Int) ≤ v1.toInt ∧ v1.toInt ≤ 0) → ((0 : Int) ≤ v2.toInt ∧ v2.toInt ≤ 6) → ((pj_fi G 171 30).toInt ≤ 15) → ((pj_fi G 171 5).toInt + (pj_fi G 171 22).toInt - v2.toInt ≤ 6) → (v2.toInt ≤ (pj_fi G 171 22).toInt) → ((pj_fi G 171 22).toInt ≤ 6) → 6 - v2.toInt < (mn : Int) → pj_X 20 pj_m195 G 19 [(0, .ref 171), (1, .int v1), (2, .int v2)] [] (fun v G' => ∃ y : Int32, v = some (.int y) ∧ pj_Inv G' ∧ pj_kpt kc_195 G0 G' ∧ ((-2147483648 : Int) ≤ y.toInt ∧ y.toInt ≤ 2147483647) ∧ ((pj_fi G' 171 30).toInt ≤ 15))) := by
  have c0_ : (Int32.ofInt (-1)).toInt = -1 := by decide
  have c1_ : (Int32.ofInt 0).toInt = 0 := by decide
  have c2_ : (Int32.ofInt 1).toInt = 1 := by decide
  have c3_ : (Int32.ofInt 2).toInt = 2 := by decide
  have c4_ : (Int32.ofInt 3).toInt = 3 := by decide
  have c5_ : (Int32.ofInt 4).toInt = 4 := by decide
  intro mn
  induction mn with
  | zero =>
    intro G hI hK v1 v2 rv1 rv2 x0_ x1_ x2_ x3_ hm
    exfalso
    omega
  | succ mn ih =>
    intro G hI hK v1 v2 rv1 rv2 x0_ x1_ x2_ x3_ hm
    obtain ⟨y1, hy1⟩ : ∃ z : Int32, z = pj_fi G 171 30 := ⟨_, rfl⟩
    have ey1 : (pj_fi G 171 30).toInt = y1.toInt := by rw [hy1]
    have ry1 : (0 : Int) ≤ y1.toInt ∧ y1.toInt ≤ 16 := by rw [hy1]; exact hI.2.1 171 30 (0, 16) rfl
    obtain ⟨y2, hy2⟩ : ∃ z : Int32, z = pj_fi G 171 5 := ⟨_, rfl⟩
    have ey2 : (pj_fi G 171 5).toInt = y2.toInt := by rw [hy2]
    have ry2 : (0 : Int) ≤ y2.toInt ∧ y2.toInt ≤ 6 := by rw [hy2]; exact hI.2.1 171 5 (0, 6) rfl
    obtain ⟨y3, hy3⟩ : ∃ z : Int32, z = pj_fi G 171 22 := ⟨_, rfl⟩
    have ey3 : (pj_fi G 171 22).toInt = y3.toInt := by rw [hy3]
    have ry3 : (0 : Int) ≤ y3.toInt ∧ y3.toInt ≤ 10 := by rw [hy3]; exact hI.2.1 171 22 (0, 10) rfl
    refine pj_X_of (fun r h => pj_R_to (G, 21, [(0, .ref 171), (1, .int v1), (2, .int v2)], [.ref 171, .int v2], 0, 0) 21 3 (fun _ => rfl) h) ?_
    refine pj_X_of (fun r h => pj_T_gi hI rfl rfl h) ?_
    show pj_X _ _ G 24 [(0, .ref 171), (1, .int v1), (2, .int v2)] [.int (pj_fi G 171 22), .int v2] _
    refine pj_X_eqi (show pj_fi G 171 22 = y3 from hy3.symm) ?_
    cases b4 : pj_c1 .ge v2 y3 with
    | true =>
      have ub4 := pj_u_geT b4
      refine pj_X_of (fun r h => pj_R_icT 125 rfl rfl b4 h) ?_
      refine pj_X_of (fun r h => pj_R_to (G, 126, [(0, .ref 171), (1, .int v1), (2, .int v2)], [.ref 171], 0, 0) 126 2 (fun _ => rfl) h) ?_
      refine pj_X_of (fun r h => pj_T_gi hI rfl rfl h) ?_
      show pj_X _ _ G 129 [(0, .ref 171), (1, .int v1), (2, .int v2)] [.int (pj_fi G 171 22)] _
      refine pj_X_eqi (show pj_fi G 171 22 = y3 from hy3.symm) ?_
      cases b5 : pj_c1 .le y3 0 with
      | true =>
        have ub5 := pj_u0_leT b5
        refine pj_X_of (fun r h => pj_R_ifT 136 rfl rfl b5 h) ?_
        refine pj_X_of (fun r h => pj_R_to (G, 137, [(0, .ref 171), (1, .int v1), (2, .int v2)], [.ref 171], 0, 0) 137 2 (fun _ => rfl) h) ?_
        refine pj_X_of (fun r h => pj_T_gi hI rfl rfl h) ?_
        show pj_X _ _ G 140 [(0, .ref 171), (1, .int v1), (2, .int v2)] [.int (pj_fi G 171 22)] _
        refine pj_X_eqi (show pj_fi G 171 22 = y3 from hy3.symm) ?_
        have q6 : (pj_fi G 171 30).toInt = y1.toInt := by rw [show pj_fi G 171 30 = y1 from hy1.symm]
        have q7 : (pj_fi G 171 5).toInt = y2.toInt := by rw [show pj_fi G 171 5 = y2 from hy2.symm]
        have q8 : (pj_fi G 171 22).toInt = y3.toInt := by rw [show pj_fi G 171 22 = y3 from hy3.symm]
        exact pj_X_rt rfl rfl ⟨_, rfl, hI, hK, pj_i32 _, by omega⟩
      | false =>
        have ub5 := pj_u0_leF b5
        refine pj_X_of (fun r h => pj_R_ifF rfl b5 h) ?_
        refine pj_X_of (fun r h => pj_R_to (G, 133, [(0, .ref 171), (1, .int v1), (2, .int v2)], [.ref 171], 0, 0) 133 2 (fun _ => rfl) h) ?_
        have q9 : (pj_fi G 171 30).toInt = y1.toInt := by rw [show pj_fi G 171 30 = y1 from hy1.symm]
        have q10 : (pj_fi G 171 5).toInt = y2.toInt := by rw [show pj_fi G 171 5 = y2 from hy2.symm]
        have q11 : (pj_fi G 171 22).toInt = y3.toInt := by rw [show pj_fi G 171 22 = y3 from hy3.symm]
        refine pj_X_ca (vs := [.ref 171]) rfl (fun _ => rfl) ⟨Nat.le_of_ble_eq_true rfl, Nat.le_of_ble_eq_true rfl, pj_T_rcv hI rfl⟩ ⟨rfl, rfl⟩ (pj_Y_up (by decide) (ct_192 G hI)) ?_
        rintro _ G13 ⟨rfl, iG13, jG13, eG13⟩
        have kG13 : pj_kpt kc_195 G0 G13 := pj_kpt_t hK (pj_kpt_s jG13 rfl)
        have q14 : (pj_fi G13 171 5).toInt = (pj_fi G 171 5).toInt := by rw [jG13.1 (171, 5) (by decide)]
        have q15 : (pj_fi G13 171 22).toInt = (pj_fi G 171 22).toInt := by rw [jG13.1 (171, 22) (by decide)]
        obtain ⟨y16, hy16⟩ : ∃ z : Int32, z = pj_fi G13 171 30 := ⟨_, rfl⟩
        have ey16 : (pj_fi G13 171 30).toInt = y16.toInt := by rw [hy16]
        have ry16 : (0 : Int) ≤ y16.toInt ∧ y16.toInt ≤ 16 := by rw [hy16]; exact iG13.2.1 171 30 (0, 16) rfl
        obtain ⟨y17, hy17⟩ : ∃ z : Int32, z = pj_fi G13 171 5 := ⟨_, rfl⟩
        have ey17 : (pj_fi G13 171 5).toInt = y17.toInt := by rw [hy17]
        have ry17 : (0 : Int) ≤ y17.toInt ∧ y17.toInt ≤ 6 := by rw [hy17]; exact iG13.2.1 171 5 (0, 6) rfl
        obtain ⟨y18, hy18⟩ : ∃ z : Int32, z = pj_fi G13 171 22 := ⟨_, rfl⟩
        have ey18 : (pj_fi G13 171 22).toInt = y18.toInt := by rw [hy18]
        have ry18 : (0 : Int) ≤ y18.toInt ∧ y18.toInt ≤ 10 := by rw [hy18]; exact iG13.2.1 171 22 (0, 10) rfl
        show pj_X _ _ G13 136 [(0, .ref 171), (1, .int v1), (2, .int v2)] [] _
        refine pj_X_of (fun r h => pj_R_to (G13, 137, [(0, .ref 171), (1, .int v1), (2, .int v2)], [.ref 171], 0, 0) 137 2 (fun _ => rfl) h) ?_
        refine pj_X_of (fun r h => pj_T_gi iG13 rfl rfl h) ?_
        show pj_X _ _ G13 140 [(0, .ref 171), (1, .int v1), (2, .int v2)] [.int (pj_fi G13 171 22)] _
        refine pj_X_eqi (show pj_fi G13 171 22 = y18 from hy18.symm) ?_
        have q19 : (pj_fi G13 171 30).toInt = y16.toInt := by rw [show pj_fi G13 171 30 = y16 from hy16.symm]
        have q20 : (pj_fi G13 171 5).toInt = y17.toInt := by rw [show pj_fi G13 171 5 = y17 from hy17.symm]
        have q21 : (pj_fi G13 171 22).toInt = y18.toInt := by rw [show pj_fi G13 171 22 = y18 from hy18.symm]
        exact pj_X_rt rfl rfl ⟨_, rfl, iG13, kG13, pj_i32 _, by omega⟩
    | false =>
      have ub4 := pj_u_geF b4
      refine pj_X_of (fun r h => pj_R_icF rfl b4 h) ?_
      refine pj_X_of (fun r h => pj_R_to (G, 28, [(0, .ref 171), (1, .int v1), (2, .int v2)], [.ref 171], 0, 0) 28 2 (fun _ => rfl) h) ?_
      refine pj_X_of (fun r h => pj_T_gr hI rfl rfl rfl h) ?_
      refine pj_X_of (fun r h => pj_R_to (G, 32, [(0, .ref 171), (1, .int v1), (2, .int v2)], [.ref 171, .ref 177], 0, 0) 32 2 (fun _ => rfl) h) ?_
      refine pj_X_of (fun r h => pj_T_gi hI rfl rfl h) ?_
      show pj_X _ _ G 35 [(0, .ref 171), (1, .int v1), (2, .int v2)] [.int (pj_fi G 171 5), .ref 177] _
      refine pj_X_eqi (show pj_fi G 171 5 = y2 from hy2.symm) ?_
      refine pj_X_of (fun r h => pj_R_to (G, 36, [(0, .ref 171), (1, .int v1), (2, .int v2)], [.ref 171, .int y2, .ref 177], 0, 0) 36 2 (fun _ => rfl) h) ?_
      refine pj_X_of (fun r h => pj_T_gr hI rfl rfl rfl h) ?_
      refine pj_X_of (fun r h => pj_R_to (G, 42, [(0, .ref 171), (1, .int v1), (2, .int v2)], [.int ((Int32.ofInt 2) * v2), .ref 181, .int y2, .ref 177], 0, 0) 42 4 (fun _ => rfl) h) ?_
      obtain ⟨z22, hz22⟩ : ∃ z : Int32, z = (Int32.ofInt 2) * v2 := ⟨_, rfl⟩
      refine pj_X_eqi hz22.symm ?_
      have fz22_0 : z22.toInt = 2 * v2.toInt := by rw [hz22]; exact pj_mulL (by decide) (by omega) (by omega)
      refine pj_X_of (fun r h => pj_T_il hI rfl rfl (by omega) (by omega) h) ?_
      show pj_X _ _ G 43 [(0, .ref 171), (1, .int v1), (2, .int v2)] [.int (pj_ai G 181 z22.toInt.toNat), .int y2, .ref 177] _
      obtain ⟨z23, hz23⟩ : ∃ z : Int32, z = pj_ai G 181 z22.toInt.toNat := ⟨_, rfl⟩
      refine pj_X_eqi hz23.symm ?_
      have ez23 : (pj_ai G 181 z22.toInt.toNat).toInt = z23.toInt := by rw [hz23]
      have fz23_0 : (-1 : Int) ≤ z23.toInt ∧ z23.toInt ≤ 99 ∧ (z23.toInt ≤ -1 ∨ -1 ≤ z23.toInt) := by rw [hz23]; exact hI.2.2.1 181 (40, -1, 99, -1, -1) rfl _ (by show _ < 40; omega)
      refine pj_X_of (fun r h => pj_T_is hI rfl rfl (by omega) (by omega) h) ?_
      show pj_X _ _ (pj_wa G 177 y2.toInt.toNat z23) 44 [(0, .ref 171), (1, .int v1), (2, .int v2)] [] _
      obtain ⟨G24, hG24⟩ : ∃ H, H = pj_wa G 177 y2.toInt.toNat z23 := ⟨_, rfl⟩
      have iG24 : pj_Inv G24 := by rw [hG24]; exact pj_Inv_wa hI rfl (fun q hq => by cases hq) (fun n hn => by cases hn)
      have kG24 : pj_kpt kc_195 G0 G24 := by rw [hG24]; exact pj_kpt_a hK rfl
      rw [← hG24]
      refine pj_X_of (fun r h => pj_R_to (G24, 45, [(0, .ref 171), (1, .int v1), (2, .int v2)], [.ref 171], 0, 0) 45 2 (fun _ => rfl) h) ?_
      refine pj_X_of (fun r h => pj_T_gr iG24 rfl rfl rfl h) ?_
      refine pj_X_of (fun r h => pj_R_to (G24, 50, [(0, .ref 171), (1, .int v1), (2, .int v2)], [.ref 171, .int (Int32.ofInt 4), .ref 179], 0, 0) 50 3 (fun _ => rfl) h) ?_
      refine pj_X_of (fun r h => pj_T_gi iG24 rfl rfl h) ?_
      show pj_X _ _ G24 53 [(0, .ref 171), (1, .int v1), (2, .int v2)] [.int (pj_fi G24 171 5), .int (Int32.ofInt 4), .ref 179] _
      refine pj_X_eqi (show pj_fi G24 171 5 = y2 from by rw [hG24, pj_fi_wa]; exact hy2.symm) ?_
      refine pj_X_of (fun r h => pj_R_to (G24, 54, [(0, .ref 171), (1, .int v1), (2, .int v2)], [.int ((Int32.ofInt 4) * y2), .ref 179], 0, 0) 54 2 (fun _ => rfl) h) ?_
      obtain ⟨z25, hz25⟩ : ∃ z : Int32, z = (Int32.ofInt 4) * y2 := ⟨_, rfl⟩
      refine pj_X_eqi hz25.symm ?_
      have fz25_0 : z25.toInt = 4 * y2.toInt := by rw [hz25]; exact pj_mulL (by decide) (by omega) (by omega)
      refine pj_X_of (fun r h => pj_R_to (G24, 56, [(0, .ref 171), (1, .int v1), (2, .int v2)], [.int (z25 + (Int32.ofInt 0)), .ref 179], 0, 0) 56 3 (fun _ => rfl) h) ?_
      obtain ⟨z26, hz26⟩ : ∃ z : Int32, z = z25 + (Int32.ofInt 0) := ⟨_, rfl⟩
      refine pj_X_eqi hz26.symm ?_
      have fz26_0 : z26.toInt = z25.toInt + (Int32.ofInt 0).toInt := by rw [hz26]; exact pj_addI (by have := pj_i32 z25; have := pj_i32 (Int32.ofInt 0); omega) (by have := pj_i32 z25; have := pj_i32 (Int32.ofInt 0); omega)
      refine pj_X_of (fun r h => pj_R_to (G24, 57, [(0, .ref 171), (1, .int v1), (2, .int v2)], [.int (Int32.ofInt (-1)), .int z26, .ref 179], 0, 0) 57 2 (fun _ => rfl) h) ?_
      refine pj_X_of (fun r h => pj_T_is iG24 rfl rfl (by omega) (by omega) h) ?_
      show pj_X _ _ (pj_wa G24 179 z26.toInt.toNat (Int32.ofInt (-1))) 58 [(0, .ref 171), (1, .int v1), (2, .int v2)] [] _
      obtain ⟨G27, hG27⟩ : ∃ H, H = pj_wa G24 179 z26.toInt.toNat (Int32.ofInt (-1)) := ⟨_, rfl⟩
      have iG27 : pj_Inv G27 := by rw [hG27]; exact pj_Inv_wa iG24 rfl (fun q hq => by cases hq) (fun n hn => ⟨fun h1 => ⟨fun h2 => by omega, fun h2 => by omega⟩, fun h1 => by omega⟩)
      have kG27 : pj_kpt kc_195 G0 G27 := by rw [hG27]; exact pj_kpt_a kG24 rfl
      rw [← hG27]
      refine pj_X_of (fun r h => pj_R_to (G27, 59, [(0, .ref 171), (1, .int v1), (2, .int v2)], [.ref 171], 0, 0) 59 2 (fun _ => rfl) h) ?_
      refine pj_X_of (fun r h => pj_T_gr iG27 rfl rfl rfl h) ?_
      refine pj_X_of (fun r h => pj_R_to (G27, 64, [(0, .ref 171), (1, .int v1), (2, .int v2)], [.ref 171, .int (Int32.ofInt 4), .ref 179], 0, 0) 64 3 (fun _ => rfl) h) ?_
      refine pj_X_of (fun r h => pj_T_gi iG27 rfl rfl h) ?_
      show pj_X _ _ G27 67 [(0, .ref 171), (1, .int v1), (2, .int v2)] [.int (pj_fi G27 171 5), .int (Int32.ofInt 4), .ref 179] _
      refine pj_X_eqi (show pj_fi G27 171 5 = y2 from by rw [hG27, pj_fi_wa]; exact (by rw [hG24, pj_fi_wa]; exact hy2.symm)) ?_
      refine pj_X_of (fun r h => pj_R_to (G27, 68, [(0, .ref 171), (1, .int v1), (2, .int v2)], [.int ((Int32.ofInt 4) * y2), .ref 179], 0, 0) 68 2 (fun _ => rfl) h) ?_
      obtain ⟨z28, hz28⟩ : ∃ z : Int32, z = (Int32.ofInt 4) * y2 := ⟨_, rfl⟩
      refine pj_X_eqi hz28.symm ?_
      have fz28_0 : z28.toInt = 4 * y2.toInt := by rw [hz28]; exact pj_mulL (by decide) (by omega) (by omega)
      refine pj_X_of (fun r h => pj_R_to (G27, 70, [(0, .ref 171), (1, .int v1), (2, .int v2)], [.int (z28 + (Int32.ofInt 1)), .ref 179], 0, 0) 70 3 (fun _ => rfl) h) ?_
      obtain ⟨z29, hz29⟩ : ∃ z : Int32, z = z28 + (Int32.ofInt 1) := ⟨_, rfl⟩
      refine pj_X_eqi hz29.symm ?_
      have fz29_0 : z29.toInt = z28.toInt + (Int32.ofInt 1).toInt := by rw [hz29]; exact pj_addI (by have := pj_i32 z28; have := pj_i32 (Int32.ofInt 1); omega) (by have := pj_i32 z28; have := pj_i32 (Int32.ofInt 1); omega)
      refine pj_X_of (fun r h => pj_R_to (G27, 71, [(0, .ref 171), (1, .int v1), (2, .int v2)], [.int (Int32.ofInt 0), .int z29, .ref 179], 0, 0) 71 2 (fun _ => rfl) h) ?_
      refine pj_X_of (fun r h => pj_T_is iG27 rfl rfl (by omega) (by omega) h) ?_
      show pj_X _ _ (pj_wa G27 179 z29.toInt.toNat (Int32.ofInt 0)) 72 [(0, .ref 171), (1, .int v1), (2, .int v2)] [] _
      obtain ⟨G30, hG30⟩ : ∃ H, H = pj_wa G27 179 z29.toInt.toNat (Int32.ofInt 0) := ⟨_, rfl⟩
      have iG30 : pj_Inv G30 := by rw [hG30]; exact pj_Inv_wa iG27 rfl (fun q hq => by cases hq) (fun n hn => ⟨fun h1 => ⟨fun h2 => by omega, fun h2 => by omega⟩, fun h1 => by omega⟩)
      have kG30 : pj_kpt kc_195 G0 G30 := by rw [hG30]; exact pj_kpt_a kG27 rfl
      rw [← hG30]
      refine pj_X_of (fun r h => pj_R_to (G30, 73, [(0, .ref 171), (1, .int v1), (2, .int v2)], [.ref 171], 0, 0) 73 2 (fun _ => rfl) h) ?_
      refine pj_X_of (fun r h => pj_T_gr iG30 rfl rfl rfl h) ?_
      refine pj_X_of (fun r h => pj_R_to (G30, 78, [(0, .ref 171), (1, .int v1), (2, .int v2)], [.ref 171, .int (Int32.ofInt 4), .ref 179], 0, 0) 78 3 (fun _ => rfl) h) ?_
      refine pj_X_of (fun r h => pj_T_gi iG30 rfl rfl h) ?_
      show pj_X _ _ G30 81 [(0, .ref 171), (1, .int v1), (2, .int v2)] [.int (pj_fi G30 171 5), .int (Int32.ofInt 4), .ref 179] _
      refine pj_X_eqi (show pj_fi G30 171 5 = y2 from by rw [hG30, pj_fi_wa]; exact (by rw [hG27, pj_fi_wa]; exact (by rw [hG24, pj_fi_wa]; exact hy2.symm))) ?_
      refine pj_X_of (fun r h => pj_R_to (G30, 82, [(0, .ref 171), (1, .int v1), (2, .int v2)], [.int ((Int32.ofInt 4) * y2), .ref 179], 0, 0) 82 2 (fun _ => rfl) h) ?_
      obtain ⟨z31, hz31⟩ : ∃ z : Int32, z = (Int32.ofInt 4) * y2 := ⟨_, rfl⟩
      refine pj_X_eqi hz31.symm ?_
      have fz31_0 : z31.toInt = 4 * y2.toInt := by rw [hz31]; exact pj_mulL (by decide) (by omega) (by omega)
      refine pj_X_of (fun r h => pj_R_to (G30, 84, [(0, .ref 171), (1, .int v1), (2, .int v2)], [.int (z31 + (Int32.ofInt 2)), .ref 179], 0, 0) 84 3 (fun _ => rfl) h) ?_
      obtain ⟨z32, hz32⟩ : ∃ z : Int32, z = z31 + (Int32.ofInt 2) := ⟨_, rfl⟩
      refine pj_X_eqi hz32.symm ?_
      have fz32_0 : z32.toInt = z31.toInt + (Int32.ofInt 2).toInt := by rw [hz32]; exact pj_addI (by have := pj_i32 z31; have := pj_i32 (Int32.ofInt 2); omega) (by have := pj_i32 z31; have := pj_i32 (Int32.ofInt 2); omega)
      refine pj_X_of (fun r h => pj_R_to (G30, 85, [(0, .ref 171), (1, .int v1), (2, .int v2)], [.int (Int32.ofInt (-1)), .int z32, .ref 179], 0, 0) 85 2 (fun _ => rfl) h) ?_
      refine pj_X_of (fun r h => pj_T_is iG30 rfl rfl (by omega) (by omega) h) ?_
      show pj_X _ _ (pj_wa G30 179 z32.toInt.toNat (Int32.ofInt (-1))) 86 [(0, .ref 171), (1, .int v1), (2, .int v2)] [] _
      obtain ⟨G33, hG33⟩ : ∃ H, H = pj_wa G30 179 z32.toInt.toNat (Int32.ofInt (-1)) := ⟨_, rfl⟩
      have iG33 : pj_Inv G33 := by rw [hG33]; exact pj_Inv_wa iG30 rfl (fun q hq => by cases hq) (fun n hn => ⟨fun h1 => ⟨fun h2 => by omega, fun h2 => by omega⟩, fun h1 => by omega⟩)
      have kG33 : pj_kpt kc_195 G0 G33 := by rw [hG33]; exact pj_kpt_a kG30 rfl
      rw [← hG33]
      refine pj_X_of (fun r h => pj_R_to (G33, 87, [(0, .ref 171), (1, .int v1), (2, .int v2)], [.ref 171], 0, 0) 87 2 (fun _ => rfl) h) ?_
      refine pj_X_of (fun r h => pj_T_gr iG33 rfl rfl rfl h) ?_
      refine pj_X_of (fun r h => pj_R_to (G33, 92, [(0, .ref 171), (1, .int v1), (2, .int v2)], [.ref 171, .int (Int32.ofInt 4), .ref 179], 0, 0) 92 3 (fun _ => rfl) h) ?_
      refine pj_X_of (fun r h => pj_T_gi iG33 rfl rfl h) ?_
      show pj_X _ _ G33 95 [(0, .ref 171), (1, .int v1), (2, .int v2)] [.int (pj_fi G33 171 5), .int (Int32.ofInt 4), .ref 179] _
      refine pj_X_eqi (show pj_fi G33 171 5 = y2 from by rw [hG33, pj_fi_wa]; exact (by rw [hG30, pj_fi_wa]; exact (by rw [hG27, pj_fi_wa]; exact (by rw [hG24, pj_fi_wa]; exact hy2.symm)))) ?_
      refine pj_X_of (fun r h => pj_R_to (G33, 96, [(0, .ref 171), (1, .int v1), (2, .int v2)], [.int ((Int32.ofInt 4) * y2), .ref 179], 0, 0) 96 2 (fun _ => rfl) h) ?_
      obtain ⟨z34, hz34⟩ : ∃ z : Int32, z = (Int32.ofInt 4) * y2 := ⟨_, rfl⟩
      refine pj_X_eqi hz34.symm ?_
      have fz34_0 : z34.toInt = 4 * y2.toInt := by rw [hz34]; exact pj_mulL (by decide) (by omega) (by omega)
      refine pj_X_of (fun r h => pj_R_to (G33, 98, [(0, .ref 171), (1, .int v1), (2, .int v2)], [.int (z34 + (Int32.ofInt 3)), .ref 179], 0, 0) 98 3 (fun _ => rfl) h) ?_
      obtain ⟨z35, hz35⟩ : ∃ z : Int32, z = z34 + (Int32.ofInt 3) := ⟨_, rfl⟩
      refine pj_X_eqi hz35.symm ?_
      have fz35_0 : z35.toInt = z34.toInt + (Int32.ofInt 3).toInt := by rw [hz35]; exact pj_addI (by have := pj_i32 z34; have := pj_i32 (Int32.ofInt 3); omega) (by have := pj_i32 z34; have := pj_i32 (Int32.ofInt 3); omega)
      refine pj_X_of (fun r h => pj_R_to (G33, 99, [(0, .ref 171), (1, .int v1), (2, .int v2)], [.ref 171, .int z35, .ref 179], 0, 0) 99 2 (fun _ => rfl) h) ?_
      refine pj_X_of (fun r h => pj_T_gr iG33 rfl rfl rfl h) ?_
      refine pj_X_of (fun r h => pj_R_to (G33, 105, [(0, .ref 171), (1, .int v1), (2, .int v2)], [.int ((Int32.ofInt 2) * v2), .ref 181, .int z35, .ref 179], 0, 0) 105 4 (fun _ => rfl) h) ?_
      obtain ⟨z36, hz36⟩ : ∃ z : Int32, z = (Int32.ofInt 2) * v2 := ⟨_, rfl⟩
      refine pj_X_eqi hz36.symm ?_
      have fz36_0 : z36.toInt = 2 * v2.toInt := by rw [hz36]; exact pj_mulL (by decide) (by omega) (by omega)
      refine pj_X_of (fun r h => pj_R_to (G33, 107, [(0, .ref 171), (1, .int v1), (2, .int v2)], [.int (z36 + (Int32.ofInt 1)), .ref 181, .int z35, .ref 179], 0, 0) 107 3 (fun _ => rfl) h) ?_
      obtain ⟨z37, hz37⟩ : ∃ z : Int32, z = z36 + (Int32.ofInt 1) := ⟨_, rfl⟩
      refine pj_X_eqi hz37.symm ?_
      have fz37_0 : z37.toInt = z36.toInt + (Int32.ofInt 1).toInt := by rw [hz37]; exact pj_addI (by have := pj_i32 z36; have := pj_i32 (Int32.ofInt 1); omega) (by have := pj_i32 z36; have := pj_i32 (Int32.ofInt 1); omega)
      refine pj_X_of (fun r h => pj_T_il iG33 rfl rfl (by omega) (by omega) h) ?_
      show pj_X _ _ G33 108 [(0, .ref 171), (1, .int v1), (2, .int v2)] [.int (pj_ai G33 181 z37.toInt.toNat), .int z35, .ref 179] _
      obtain ⟨z38, hz38⟩ : ∃ z : Int32, z = pj_ai G33 181 z37.toInt.toNat := ⟨_, rfl⟩
      refine pj_X_eqi hz38.symm ?_
      have ez38 : (pj_ai G33 181 z37.toInt.toNat).toInt = z38.toInt := by rw [hz38]
      have fz38_0 : (-1 : Int) ≤ z38.toInt ∧ z38.toInt ≤ 99 ∧ (z38.toInt ≤ -1 ∨ -1 ≤ z38.toInt) := by rw [hz38]; exact iG33.2.2.1 181 (40, -1, 99, -1, -1) rfl _ (by show _ < 40; omega)
      refine pj_X_of (fun r h => pj_T_is iG33 rfl rfl (by omega) (by omega) h) ?_
      show pj_X _ _ (pj_wa G33 179 z35.toInt.toNat z38) 109 [(0, .ref 171), (1, .int v1), (2, .int v2)] [] _
      obtain ⟨G39, hG39⟩ : ∃ H, H = pj_wa G33 179 z35.toInt.toNat z38 := ⟨_, rfl⟩
      have iG39 : pj_Inv G39 := by rw [hG39]; exact pj_Inv_wa iG33 rfl (fun q hq => by cases hq) (fun n hn => ⟨fun h1 => ⟨fun h2 => by omega, fun h2 => by omega⟩, fun h1 => by omega⟩)
      have kG39 : pj_kpt kc_195 G0 G39 := by rw [hG39]; exact pj_kpt_a kG33 rfl
      rw [← hG39]
      refine pj_X_of (fun r h => pj_R_to (G39, 111, [(0, .ref 171), (1, .int v1), (2, .int v2)], [.ref 171, .ref 171], 0, 0) 111 3 (fun _ => rfl) h) ?_
      refine pj_X_of (fun r h => pj_T_gi iG39 rfl rfl h) ?_
      show pj_X _ _ G39 114 [(0, .ref 171), (1, .int v1), (2, .int v2)] [.int (pj_fi G39 171 5), .ref 171] _
      refine pj_X_eqi (show pj_fi G39 171 5 = y2 from by rw [hG39, pj_fi_wa]; exact (by rw [hG33, pj_fi_wa]; exact (by rw [hG30, pj_fi_wa]; exact (by rw [hG27, pj_fi_wa]; exact (by rw [hG24, pj_fi_wa]; exact hy2.symm))))) ?_
      refine pj_X_of (fun r h => pj_R_to (G39, 116, [(0, .ref 171), (1, .int v1), (2, .int v2)], [.int (y2 + (Int32.ofInt 1)), .ref 171], 0, 0) 116 3 (fun _ => rfl) h) ?_
      obtain ⟨z40, hz40⟩ : ∃ z : Int32, z = y2 + (Int32.ofInt 1) := ⟨_, rfl⟩
      refine pj_X_eqi hz40.symm ?_
      have fz40_0 : z40.toInt = y2.toInt + (Int32.ofInt 1).toInt := by rw [hz40]; exact pj_addI (by have := pj_i32 y2; have := pj_i32 (Int32.ofInt 1); omega) (by have := pj_i32 y2; have := pj_i32 (Int32.ofInt 1); omega)
      refine pj_X_of (fun r h => pj_T_pf iG39 rfl rfl rfl h) ?_
      show pj_X _ _ (pj_wv G39 171 5 (.int z40)) 119 [(0, .ref 171), (1, .int v1), (2, .int v2)] [] _
      obtain ⟨G41, hG41⟩ : ∃ H, H = pj_wv G39 171 5 (.int z40) := ⟨_, rfl⟩
      have iG41 : pj_Inv G41 := by rw [hG41]; exact pj_Inv_wi iG39 (ci := 12) rfl (fun q hq => by cases hq; exact ⟨by show (0 : Int) ≤ _; omega, by show _ ≤ (6 : Int); omega⟩)
      have kG41 : pj_kpt kc_195 G0 G41 := by rw [hG41]; exact pj_kpt_v kG39 rfl
      rw [← hG41]
      refine pj_X_of (fun r h => pj_R_to (G41, 122, [(2, .int (v2 + Int32.ofInt 1)), (0, .ref 171), (1, .int v1)], [], 0, 0) 122 2 (fun _ => rfl) h) ?_
      obtain ⟨z42, hz42⟩ : ∃ z : Int32, z = v2 + Int32.ofInt 1 := ⟨_, rfl⟩
      rw [← hz42]
      have fz42_0 : z42.toInt = v2.toInt + (Int32.ofInt 1).toInt := by rw [hz42]; exact pj_addI (by have := pj_i32 v2; have := pj_i32 (Int32.ofInt 1); omega) (by have := pj_i32 v2; have := pj_i32 (Int32.ofInt 1); omega)
      refine pj_X_of (fun r h => pj_R_to (G41, 19, [(2, .int z42), (0, .ref 171), (1, .int v1)], [], 0, 0) 19 2 (fun _ => rfl) h) ?_
      have q43 : (pj_fi G41 171 30).toInt = y1.toInt := by rw [show pj_fi G41 171 30 = y1 from by rw [hG41, pj_fi_wv_ne _ _ _ _ _ _ (by decide)]; exact (by rw [hG39, pj_fi_wa]; exact (by rw [hG33, pj_fi_wa]; exact (by rw [hG30, pj_fi_wa]; exact (by rw [hG27, pj_fi_wa]; exact (by rw [hG24, pj_fi_wa]; exact hy1.symm)))))]
      have q44 : (pj_fi G41 171 5).toInt = z40.toInt := by rw [show pj_fi G41 171 5 = z40 from by rw [hG41]; exact pj_fi_wi iG39.1 (ci := 12) rfl _]
      have q45 : (pj_fi G41 171 22).toInt = y3.toInt := by rw [show pj_fi G41 171 22 = y3 from by rw [hG41, pj_fi_wv_ne _ _ _ _ _ _ (by decide)]; exact (by rw [hG39, pj_fi_wa]; exact (by rw [hG33, pj_fi_wa]; exact (by rw [hG30, pj_fi_wa]; exact (by rw [hG27, pj_fi_wa]; exact (by rw [hG24, pj_fi_wa]; exact hy3.symm)))))]
      exact pj_X_sub [(0, .ref 171), (1, .int v1), (2, .int z42)] (show List.Nodup [0, 1, 2] by decide) ⟨rfl, rfl, rfl, trivial⟩ (ih G41 iG41 kG41 v1 z42 ⟨by omega, by omega⟩ ⟨by omega, by omega⟩ (by omega) (by omega) (by omega) (by omega) (by omega))
theorem ct_195 (G0 : pj_G) (hI : pj_Inv G0) (p0_ : (pj_fi G0 171 30).toInt ≤ 15) : pj_Y 21 195 [.ref 171] G0 (fun v G' => ∃ y : Int32, v = some (.int y) ∧ pj_Inv G' ∧ pj_kpt kc_195 G0 G' ∧ ((-2147483648 : Int) ≤ y.toInt ∧ y.toInt ≤ 2147483647) ∧ ((pj_fi G' 171 30).toInt ≤ 15)) := by
  have c0_ : (Int32.ofInt (-1)).toInt = -1 := by decide
  have c1_ : (Int32.ofInt 0).toInt = 0 := by decide
  have c2_ : (Int32.ofInt 1).toInt = 1 := by decide
  have c3_ : (Int32.ofInt 2).toInt = 2 := by decide
  have c4_ : (Int32.ofInt 3).toInt = 3 := by decide
  have c5_ : (Int32.ofInt 4).toInt = 4 := by decide
  refine pj_Y_X (M := pj_m195) rfl rfl (Nat.le_of_ble_eq_true rfl) ?_
  have hK : pj_kpt kc_195 G0 G0 := pj_kpt_r _ _
  show pj_X _ _ G0 0 [(0, .ref 171)] [] _
  obtain ⟨y46, hy46⟩ : ∃ z : Int32, z = pj_fi G0 171 30 := ⟨_, rfl⟩
  have ey46 : (pj_fi G0 171 30).toInt = y46.toInt := by rw [hy46]
  have ry46 : (0 : Int) ≤ y46.toInt ∧ y46.toInt ≤ 16 := by rw [hy46]; exact hI.2.1 171 30 (0, 16) rfl
  obtain ⟨y47, hy47⟩ : ∃ z : Int32, z = pj_fi G0 171 5 := ⟨_, rfl⟩
  have ey47 : (pj_fi G0 171 5).toInt = y47.toInt := by rw [hy47]
  have ry47 : (0 : Int) ≤ y47.toInt ∧ y47.toInt ≤ 6 := by rw [hy47]; exact hI.2.1 171 5 (0, 6) rfl
  obtain ⟨y48, hy48⟩ : ∃ z : Int32, z = pj_fi G0 171 22 := ⟨_, rfl⟩
  have ey48 : (pj_fi G0 171 22).toInt = y48.toInt := by rw [hy48]
  have ry48 : (0 : Int) ≤ y48.toInt ∧ y48.toInt ≤ 10 := by rw [hy48]; exact hI.2.1 171 22 (0, 10) rfl
  refine pj_X_of (fun r h => pj_R_to (G0, 2, [(0, .ref 171)], [.int (Int32.ofInt 0), .ref 171], 0, 0) 2 3 (fun _ => rfl) h) ?_
  refine pj_X_of (fun r h => pj_T_pf hI rfl rfl rfl h) ?_
  show pj_X _ _ (pj_wv G0 171 0 (.int (Int32.ofInt 0))) 5 [(0, .ref 171)] [] _
  obtain ⟨G49, hG49⟩ : ∃ H, H = pj_wv G0 171 0 (.int (Int32.ofInt 0)) := ⟨_, rfl⟩
  have iG49 : pj_Inv G49 := by rw [hG49]; exact pj_Inv_wi hI (ci := 12) rfl (fun q hq => by cases hq)
  have kG49 : pj_kpt kc_195 G0 G49 := by rw [hG49]; exact pj_kpt_v hK rfl
  rw [← hG49]
  refine pj_X_of (fun r h => pj_R_to (G49, 7, [(0, .ref 171)], [.int (Int32.ofInt 1), .ref 171], 0, 0) 7 3 (fun _ => rfl) h) ?_
  have q50 : (pj_fi G49 171 30).toInt = y46.toInt := by rw [show pj_fi G49 171 30 = y46 from by rw [hG49, pj_fi_wv_ne _ _ _ _ _ _ (by decide)]; exact hy46.symm]
  have q51 : (pj_fi G49 171 5).toInt = y47.toInt := by rw [show pj_fi G49 171 5 = y47 from by rw [hG49, pj_fi_wv_ne _ _ _ _ _ _ (by decide)]; exact hy47.symm]
  have q52 : (pj_fi G49 171 22).toInt = y48.toInt := by rw [show pj_fi G49 171 22 = y48 from by rw [hG49, pj_fi_wv_ne _ _ _ _ _ _ (by decide)]; exact hy48.symm]
  refine pj_X_ca (vs := [.ref 171, .int (Int32.ofInt 1)]) rfl (fun _ => rfl) ⟨Nat.le_of_ble_eq_true rfl, Nat.le_of_ble_eq_true rfl, pj_T_rcv iG49 rfl⟩ ⟨rfl, rfl⟩ (pj_Y_up (by decide) (ct_194_1 G49 iG49 (Int32.ofInt 1) ⟨by omega, by omega⟩)) ?_
  rintro _ G54 ⟨y53, rfl, iG54, jG54, ry53, ey53⟩
  have kG54 : pj_kpt kc_195 G0 G54 := pj_kpt_t kG49 (pj_kpt_s jG54 rfl)
  have q55 : (pj_fi G54 171 30).toInt = (pj_fi G49 171 30).toInt := by rw [jG54.1 (171, 30) (by decide)]
  have q56 : (pj_fi G54 171 5).toInt = (pj_fi G49 171 5).toInt := by rw [jG54.1 (171, 5) (by decide)]
  obtain ⟨y57, hy57⟩ : ∃ z : Int32, z = pj_fi G54 171 30 := ⟨_, rfl⟩
  have ey57 : (pj_fi G54 171 30).toInt = y57.toInt := by rw [hy57]
  have ry57 : (0 : Int) ≤ y57.toInt ∧ y57.toInt ≤ 16 := by rw [hy57]; exact iG54.2.1 171 30 (0, 16) rfl
  obtain ⟨y58, hy58⟩ : ∃ z : Int32, z = pj_fi G54 171 5 := ⟨_, rfl⟩
  have ey58 : (pj_fi G54 171 5).toInt = y58.toInt := by rw [hy58]
  have ry58 : (0 : Int) ≤ y58.toInt ∧ y58.toInt ≤ 6 := by rw [hy58]; exact iG54.2.1 171 5 (0, 6) rfl
  obtain ⟨y59, hy59⟩ : ∃ z : Int32, z = pj_fi G54 171 22 := ⟨_, rfl⟩
  have ey59 : (pj_fi G54 171 22).toInt = y59.toInt := by rw [hy59]
  have ry59 : (0 : Int) ≤ y59.toInt ∧ y59.toInt ≤ 10 := by rw [hy59]; exact iG54.2.1 171 22 (0, 10) rfl
  show pj_X _ _ G54 10 [(0, .ref 171)] [.int y53] _
  refine pj_X_of (fun r h => pj_R_to (G54, 12, [(1, .int y53), (0, .ref 171)], [.int y53], 0, 0) 12 3 (fun _ => rfl) h) ?_
  cases b60 : pj_c1 .ge y53 0 with
  | true =>
    have ub60 := pj_u0_geT b60
    refine pj_X_of (fun r h => pj_R_ifT 17 rfl rfl b60 h) ?_
    refine pj_X_of (fun r h => pj_R_to (G54, 19, [(2, .int (Int32.ofInt 0)), (1, .int y53), (0, .ref 171)], [], 0, 0) 19 3 (fun _ => rfl) h) ?_
    have q61 : (pj_fi G54 171 30).toInt = y57.toInt := by rw [show pj_fi G54 171 30 = y57 from hy57.symm]
    have q62 : (pj_fi G54 171 5).toInt = y58.toInt := by rw [show pj_fi G54 171 5 = y58 from hy58.symm]
    have q63 : (pj_fi G54 171 22).toInt = y59.toInt := by rw [show pj_fi G54 171 22 = y59 from hy59.symm]
    exact pj_X_sub [(0, .ref 171), (1, .int y53), (2, .int (Int32.ofInt 0))] (show List.Nodup [0, 1, 2] by decide) ⟨rfl, rfl, rfl, trivial⟩ ((lp_ct_195 G0 hI   p0_ 7) G54 iG54 kG54 y53 (Int32.ofInt 0) ⟨by omega, by omega⟩ ⟨by omega, by omega⟩ (by omega) (by omega) (by omega) (by omega) (by omega))
  | false =>
    have ub60 := pj_u0_geF b60
    refine pj_X_of (fun r h => pj_R_ifF rfl b60 h) ?_
    refine pj_X_of (fun r h => pj_R_to (G54, 16, [(1, .int y53), (0, .ref 171)], [.int y53], 0, 0) 16 2 (fun _ => rfl) h) ?_
    have q64 : (pj_fi G54 171 30).toInt = y57.toInt := by rw [show pj_fi G54 171 30 = y57 from hy57.symm]
    have q65 : (pj_fi G54 171 5).toInt = y58.toInt := by rw [show pj_fi G54 171 5 = y58 from hy58.symm]
    have q66 : (pj_fi G54 171 22).toInt = y59.toInt := by rw [show pj_fi G54 171 22 = y59 from hy59.symm]
    exact pj_X_rt rfl rfl ⟨_, rfl, iG54, kG54, pj_i32 _, by omega⟩
def kc_196 : pj_KT := ([(171, 0), (171, 6), (171, 7), (171, 16), (171, 17), (171, 18), (171, 19), (171, 22), (171, 30)], [171, 178, 179, 181], [178, 179, 181])
theorem lp_ct_196 (G0 : pj_G) (hI0 : pj_Inv G0) (p0_ : (pj_fi G0 171 30).toInt ≤ 15) : ∀ mn : Nat, (∀ (G : pj_G) (hI : pj_Inv G) (hK : pj_kpt kc_196 G0 G) (v1 : Int32) (v2 : Int32), ((-81 : Int) ≤ v1.toInt ∧ v1.toInt ≤ 0) → ((0 : Int) ≤ v2.toInt ∧ v2.toInt ≤ 6) → (pj_re G (pj_fi G 171 22).toInt) → ((pj_fi G 171 30).toInt ≤ 15) → ((pj_fi G 171 6).toInt + (pj_fi G 171 22).toInt - v2.toInt ≤ 6) → (v2.toInt ≤ (pj_fi G 171 22).toInt) → ((pj_fi G 171 22).toInt ≤ 6) → 6 - v2.toInt < (mn : Int) → pj_X 20 pj_m196 G 19 [(0, .ref 171), (1, .int v1), (2, .int v2)] [] (fun v G' => ∃ y : Int32, v = some (.int y) ∧ pj_Inv G' ∧ pj_kpt kc_196 G0 G' ∧ ((-2147483648 : Int) ≤ y.toInt ∧ y.toInt ≤ 2147483647) ∧ ((pj_fi G' 171 30).toInt ≤ 15))) := by
  have c0_ : ((Int8.ofInt 24).toInt32).toInt = 24 := by decide
  have c1_ : (Int32.ofInt 0).toInt = 0 := by decide
  have c2_ : (Int32.ofInt 1).toInt = 1 := by decide
  have c3_ : (Int32.ofInt 2).toInt = 2 := by decide
  intro mn
  induction mn with
  | zero =>
    intro G hI hK v1 v2 rv1 rv2 x0_ x1_ x2_ x3_ x4_ hm
    exfalso
    omega
  | succ mn ih =>
    intro G hI hK v1 v2 rv1 rv2 x0_ x1_ x2_ x3_ x4_ hm
    obtain ⟨y1, hy1⟩ : ∃ z : Int32, z = pj_fi G 171 30 := ⟨_, rfl⟩
    have ey1 : (pj_fi G 171 30).toInt = y1.toInt := by rw [hy1]
    have ry1 : (0 : Int) ≤ y1.toInt ∧ y1.toInt ≤ 16 := by rw [hy1]; exact hI.2.1 171 30 (0, 16) rfl
    obtain ⟨y2, hy2⟩ : ∃ z : Int32, z = pj_fi G 171 6 := ⟨_, rfl⟩
    have ey2 : (pj_fi G 171 6).toInt = y2.toInt := by rw [hy2]
    have ry2 : (0 : Int) ≤ y2.toInt ∧ y2.toInt ≤ 6 := by rw [hy2]; exact hI.2.1 171 6 (0, 6) rfl
    obtain ⟨y3, hy3⟩ : ∃ z : Int32, z = pj_fi G 171 22 := ⟨_, rfl⟩
    have ey3 : (pj_fi G 171 22).toInt = y3.toInt := by rw [hy3]
    have ry3 : (0 : Int) ≤ y3.toInt ∧ y3.toInt ≤ 10 := by rw [hy3]; exact hI.2.1 171 22 (0, 10) rfl
    refine pj_X_of (fun r h => pj_R_to (G, 21, [(0, .ref 171), (1, .int v1), (2, .int v2)], [.ref 171, .int v2], 0, 0) 21 3 (fun _ => rfl) h) ?_
    refine pj_X_of (fun r h => pj_T_gi hI rfl rfl h) ?_
    show pj_X _ _ G 24 [(0, .ref 171), (1, .int v1), (2, .int v2)] [.int (pj_fi G 171 22), .int v2] _
    refine pj_X_eqi (show pj_fi G 171 22 = y3 from hy3.symm) ?_
    cases b4 : pj_c1 .ge v2 y3 with
    | true =>
      have ub4 := pj_u_geT b4
      refine pj_X_of (fun r h => pj_R_icT 82 rfl rfl b4 h) ?_
      refine pj_X_of (fun r h => pj_R_to (G, 83, [(0, .ref 171), (1, .int v1), (2, .int v2)], [.ref 171], 0, 0) 83 2 (fun _ => rfl) h) ?_
      refine pj_X_of (fun r h => pj_T_gi hI rfl rfl h) ?_
      show pj_X _ _ G 86 [(0, .ref 171), (1, .int v1), (2, .int v2)] [.int (pj_fi G 171 22)] _
      refine pj_X_eqi (show pj_fi G 171 22 = y3 from hy3.symm) ?_
      cases b5 : pj_c1 .le y3 0 with
      | true =>
        have ub5 := pj_u0_leT b5
        refine pj_X_of (fun r h => pj_R_ifT 93 rfl rfl b5 h) ?_
        refine pj_X_of (fun r h => pj_R_to (G, 94, [(0, .ref 171), (1, .int v1), (2, .int v2)], [.ref 171], 0, 0) 94 2 (fun _ => rfl) h) ?_
        refine pj_X_of (fun r h => pj_T_gi hI rfl rfl h) ?_
        show pj_X _ _ G 97 [(0, .ref 171), (1, .int v1), (2, .int v2)] [.int (pj_fi G 171 22)] _
        refine pj_X_eqi (show pj_fi G 171 22 = y3 from hy3.symm) ?_
        have q6 : (pj_fi G 171 30).toInt = y1.toInt := by rw [show pj_fi G 171 30 = y1 from hy1.symm]
        have q7 : (pj_fi G 171 6).toInt = y2.toInt := by rw [show pj_fi G 171 6 = y2 from hy2.symm]
        have q8 : (pj_fi G 171 22).toInt = y3.toInt := by rw [show pj_fi G 171 22 = y3 from hy3.symm]
        exact pj_X_rt rfl rfl ⟨_, rfl, hI, hK, pj_i32 _, by omega⟩
      | false =>
        have ub5 := pj_u0_leF b5
        refine pj_X_of (fun r h => pj_R_ifF rfl b5 h) ?_
        refine pj_X_of (fun r h => pj_R_to (G, 90, [(0, .ref 171), (1, .int v1), (2, .int v2)], [.ref 171], 0, 0) 90 2 (fun _ => rfl) h) ?_
        have q9 : (pj_fi G 171 30).toInt = y1.toInt := by rw [show pj_fi G 171 30 = y1 from hy1.symm]
        have q10 : (pj_fi G 171 6).toInt = y2.toInt := by rw [show pj_fi G 171 6 = y2 from hy2.symm]
        have q11 : (pj_fi G 171 22).toInt = y3.toInt := by rw [show pj_fi G 171 22 = y3 from hy3.symm]
        refine pj_X_ca (vs := [.ref 171]) rfl (fun _ => rfl) ⟨Nat.le_of_ble_eq_true rfl, Nat.le_of_ble_eq_true rfl, pj_T_rcv hI rfl⟩ ⟨rfl, rfl⟩ (pj_Y_up (by decide) (ct_192 G hI)) ?_
        rintro _ G13 ⟨rfl, iG13, jG13, eG13⟩
        have kG13 : pj_kpt kc_196 G0 G13 := pj_kpt_t hK (pj_kpt_s jG13 rfl)
        have q14 : (pj_fi G13 171 6).toInt = (pj_fi G 171 6).toInt := by rw [jG13.1 (171, 6) (by decide)]
        have q15 : (pj_fi G13 171 22).toInt = (pj_fi G 171 22).toInt := by rw [jG13.1 (171, 22) (by decide)]
        obtain ⟨y16, hy16⟩ : ∃ z : Int32, z = pj_fi G13 171 30 := ⟨_, rfl⟩
        have ey16 : (pj_fi G13 171 30).toInt = y16.toInt := by rw [hy16]
        have ry16 : (0 : Int) ≤ y16.toInt ∧ y16.toInt ≤ 16 := by rw [hy16]; exact iG13.2.1 171 30 (0, 16) rfl
        obtain ⟨y17, hy17⟩ : ∃ z : Int32, z = pj_fi G13 171 6 := ⟨_, rfl⟩
        have ey17 : (pj_fi G13 171 6).toInt = y17.toInt := by rw [hy17]
        have ry17 : (0 : Int) ≤ y17.toInt ∧ y17.toInt ≤ 6 := by rw [hy17]; exact iG13.2.1 171 6 (0, 6) rfl
        obtain ⟨y18, hy18⟩ : ∃ z : Int32, z = pj_fi G13 171 22 := ⟨_, rfl⟩
        have ey18 : (pj_fi G13 171 22).toInt = y18.toInt := by rw [hy18]
        have ry18 : (0 : Int) ≤ y18.toInt ∧ y18.toInt ≤ 10 := by rw [hy18]; exact iG13.2.1 171 22 (0, 10) rfl
        show pj_X _ _ G13 93 [(0, .ref 171), (1, .int v1), (2, .int v2)] [] _
        refine pj_X_of (fun r h => pj_R_to (G13, 94, [(0, .ref 171), (1, .int v1), (2, .int v2)], [.ref 171], 0, 0) 94 2 (fun _ => rfl) h) ?_
        refine pj_X_of (fun r h => pj_T_gi iG13 rfl rfl h) ?_
        show pj_X _ _ G13 97 [(0, .ref 171), (1, .int v1), (2, .int v2)] [.int (pj_fi G13 171 22)] _
        refine pj_X_eqi (show pj_fi G13 171 22 = y18 from hy18.symm) ?_
        have q19 : (pj_fi G13 171 30).toInt = y16.toInt := by rw [show pj_fi G13 171 30 = y16 from hy16.symm]
        have q20 : (pj_fi G13 171 6).toInt = y17.toInt := by rw [show pj_fi G13 171 6 = y17 from hy17.symm]
        have q21 : (pj_fi G13 171 22).toInt = y18.toInt := by rw [show pj_fi G13 171 22 = y18 from hy18.symm]
        exact pj_X_rt rfl rfl ⟨_, rfl, iG13, kG13, pj_i32 _, by omega⟩
    | false =>
      have ub4 := pj_u_geF b4
      refine pj_X_of (fun r h => pj_R_icF rfl b4 h) ?_
      have hq := x0_ v2.toInt.toNat (by omega)
      refine pj_X_of (fun r h => pj_R_to (G, 28, [(0, .ref 171), (1, .int v1), (2, .int v2)], [.ref 171], 0, 0) 28 2 (fun _ => rfl) h) ?_
      refine pj_X_of (fun r h => pj_T_gr hI rfl rfl rfl h) ?_
      refine pj_X_of (fun r h => pj_R_to (G, 34, [(0, .ref 171), (1, .int v1), (2, .int v2)], [.ref 171, .int ((Int8.ofInt 24).toInt32), .ref 179], 0, 0) 34 3 (fun _ => rfl) h) ?_
      refine pj_X_of (fun r h => pj_T_gi hI rfl rfl h) ?_
      show pj_X _ _ G 37 [(0, .ref 171), (1, .int v1), (2, .int v2)] [.int (pj_fi G 171 6), .int ((Int8.ofInt 24).toInt32), .ref 179] _
      refine pj_X_eqi (show pj_fi G 171 6 = y2 from hy2.symm) ?_
      refine pj_X_of (fun r h => pj_R_to (G, 38, [(0, .ref 171), (1, .int v1), (2, .int v2)], [.int (((Int8.ofInt 24).toInt32) + y2), .ref 179], 0, 0) 38 2 (fun _ => rfl) h) ?_
      obtain ⟨z22, hz22⟩ : ∃ z : Int32, z = ((Int8.ofInt 24).toInt32) + y2 := ⟨_, rfl⟩
      refine pj_X_eqi hz22.symm ?_
      have fz22_0 : z22.toInt = ((Int8.ofInt 24).toInt32).toInt + y2.toInt := by rw [hz22]; exact pj_addI (by have := pj_i32 ((Int8.ofInt 24).toInt32); have := pj_i32 y2; omega) (by have := pj_i32 ((Int8.ofInt 24).toInt32); have := pj_i32 y2; omega)
      refine pj_X_of (fun r h => pj_R_to (G, 39, [(0, .ref 171), (1, .int v1), (2, .int v2)], [.ref 171, .int z22, .ref 179], 0, 0) 39 2 (fun _ => rfl) h) ?_
      refine pj_X_of (fun r h => pj_T_gr hI rfl rfl rfl h) ?_
      refine pj_X_of (fun r h => pj_R_to (G, 45, [(0, .ref 171), (1, .int v1), (2, .int v2)], [.int ((Int32.ofInt 2) * v2), .ref 181, .int z22, .ref 179], 0, 0) 45 4 (fun _ => rfl) h) ?_
      obtain ⟨z23, hz23⟩ : ∃ z : Int32, z = (Int32.ofInt 2) * v2 := ⟨_, rfl⟩
      refine pj_X_eqi hz23.symm ?_
      have fz23_0 : z23.toInt = 2 * v2.toInt := by rw [hz23]; exact pj_mulL (by decide) (by omega) (by omega)
      refine pj_X_of (fun r h => pj_T_il hI rfl rfl (by omega) (by omega) h) ?_
      show pj_X _ _ G 46 [(0, .ref 171), (1, .int v1), (2, .int v2)] [.int (pj_ai G 181 z23.toInt.toNat), .int z22, .ref 179] _
      obtain ⟨z24, hz24⟩ : ∃ z : Int32, z = pj_ai G 181 z23.toInt.toNat := ⟨_, rfl⟩
      refine pj_X_eqi hz24.symm ?_
      have ez24 : (pj_ai G 181 z23.toInt.toNat).toInt = z24.toInt := by rw [hz24]
      have fz24_0 : (-1 : Int) ≤ z24.toInt ∧ z24.toInt ≤ 99 ∧ (z24.toInt ≤ -1 ∨ -1 ≤ z24.toInt) := by rw [hz24]; exact hI.2.2.1 181 (40, -1, 99, -1, -1) rfl _ (by show _ < 40; omega)
      have k25 : z24.toInt = (pj_ai G 181 (2 * v2.toInt.toNat)).toInt := by rw [hz24, show z23.toInt.toNat = 2 * v2.toInt.toNat by omega]
      refine pj_X_of (fun r h => pj_T_is hI rfl rfl (by omega) (by omega) h) ?_
      show pj_X _ _ (pj_wa G 179 z22.toInt.toNat z24) 47 [(0, .ref 171), (1, .int v1), (2, .int v2)] [] _
      obtain ⟨G26, hG26⟩ : ∃ H, H = pj_wa G 179 z22.toInt.toNat z24 := ⟨_, rfl⟩
      have iG26 : pj_Inv G26 := by rw [hG26]; exact pj_Inv_wa hI rfl (fun q hq => by cases hq) (fun n hn => ⟨fun h1 => ⟨fun h2 => by omega, fun h2 => by omega⟩, fun h1 => by omega⟩)
      have kG26 : pj_kpt kc_196 G0 G26 := by rw [hG26]; exact pj_kpt_a hK rfl
      rw [← hG26]
      refine pj_X_of (fun r h => pj_R_to (G26, 48, [(0, .ref 171), (1, .int v1), (2, .int v2)], [.ref 171], 0, 0) 48 2 (fun _ => rfl) h) ?_
      refine pj_X_of (fun r h => pj_T_gr iG26 rfl rfl rfl h) ?_
      refine pj_X_of (fun r h => pj_R_to (G26, 52, [(0, .ref 171), (1, .int v1), (2, .int v2)], [.ref 171, .ref 178], 0, 0) 52 2 (fun _ => rfl) h) ?_
      refine pj_X_of (fun r h => pj_T_gi iG26 rfl rfl h) ?_
      show pj_X _ _ G26 55 [(0, .ref 171), (1, .int v1), (2, .int v2)] [.int (pj_fi G26 171 6), .ref 178] _
      refine pj_X_eqi (show pj_fi G26 171 6 = y2 from by rw [hG26, pj_fi_wa]; exact hy2.symm) ?_
      refine pj_X_of (fun r h => pj_R_to (G26, 56, [(0, .ref 171), (1, .int v1), (2, .int v2)], [.ref 171, .int y2, .ref 178], 0, 0) 56 2 (fun _ => rfl) h) ?_
      refine pj_X_of (fun r h => pj_T_gr iG26 rfl rfl rfl h) ?_
      refine pj_X_of (fun r h => pj_R_to (G26, 62, [(0, .ref 171), (1, .int v1), (2, .int v2)], [.int ((Int32.ofInt 2) * v2), .ref 181, .int y2, .ref 178], 0, 0) 62 4 (fun _ => rfl) h) ?_
      obtain ⟨z27, hz27⟩ : ∃ z : Int32, z = (Int32.ofInt 2) * v2 := ⟨_, rfl⟩
      refine pj_X_eqi hz27.symm ?_
      have fz27_0 : z27.toInt = 2 * v2.toInt := by rw [hz27]; exact pj_mulL (by decide) (by omega) (by omega)
      refine pj_X_of (fun r h => pj_R_to (G26, 64, [(0, .ref 171), (1, .int v1), (2, .int v2)], [.int (z27 + (Int32.ofInt 1)), .ref 181, .int y2, .ref 178], 0, 0) 64 3 (fun _ => rfl) h) ?_
      obtain ⟨z28, hz28⟩ : ∃ z : Int32, z = z27 + (Int32.ofInt 1) := ⟨_, rfl⟩
      refine pj_X_eqi hz28.symm ?_
      have fz28_0 : z28.toInt = z27.toInt + (Int32.ofInt 1).toInt := by rw [hz28]; exact pj_addI (by have := pj_i32 z27; have := pj_i32 (Int32.ofInt 1); omega) (by have := pj_i32 z27; have := pj_i32 (Int32.ofInt 1); omega)
      refine pj_X_of (fun r h => pj_T_il iG26 rfl rfl (by omega) (by omega) h) ?_
      show pj_X _ _ G26 65 [(0, .ref 171), (1, .int v1), (2, .int v2)] [.int (pj_ai G26 181 z28.toInt.toNat), .int y2, .ref 178] _
      obtain ⟨z29, hz29⟩ : ∃ z : Int32, z = pj_ai G26 181 z28.toInt.toNat := ⟨_, rfl⟩
      refine pj_X_eqi hz29.symm ?_
      have ez29 : (pj_ai G26 181 z28.toInt.toNat).toInt = z29.toInt := by rw [hz29]
      have fz29_0 : (-1 : Int) ≤ z29.toInt ∧ z29.toInt ≤ 99 ∧ (z29.toInt ≤ -1 ∨ -1 ≤ z29.toInt) := by rw [hz29]; exact iG26.2.2.1 181 (40, -1, 99, -1, -1) rfl _ (by show _ < 40; omega)
      refine pj_X_of (fun r h => pj_T_is iG26 rfl rfl (by omega) (by omega) h) ?_
      show pj_X _ _ (pj_wa G26 178 y2.toInt.toNat z29) 66 [(0, .ref 171), (1, .int v1), (2, .int v2)] [] _
      obtain ⟨G30, hG30⟩ : ∃ H, H = pj_wa G26 178 y2.toInt.toNat z29 := ⟨_, rfl⟩
      have iG30 : pj_Inv G30 := by rw [hG30]; exact pj_Inv_wa iG26 rfl (fun q hq => by cases hq) (fun n hn => by cases hn)
      have kG30 : pj_kpt kc_196 G0 G30 := by rw [hG30]; exact pj_kpt_a kG26 rfl
      rw [← hG30]
      refine pj_X_of (fun r h => pj_R_to (G30, 68, [(0, .ref 171), (1, .int v1), (2, .int v2)], [.ref 171, .ref 171], 0, 0) 68 3 (fun _ => rfl) h) ?_
      refine pj_X_of (fun r h => pj_T_gi iG30 rfl rfl h) ?_
      show pj_X _ _ G30 71 [(0, .ref 171), (1, .int v1), (2, .int v2)] [.int (pj_fi G30 171 6), .ref 171] _
      refine pj_X_eqi (show pj_fi G30 171 6 = y2 from by rw [hG30, pj_fi_wa]; exact (by rw [hG26, pj_fi_wa]; exact hy2.symm)) ?_
      refine pj_X_of (fun r h => pj_R_to (G30, 73, [(0, .ref 171), (1, .int v1), (2, .int v2)], [.int (y2 + (Int32.ofInt 1)), .ref 171], 0, 0) 73 3 (fun _ => rfl) h) ?_
      obtain ⟨z31, hz31⟩ : ∃ z : Int32, z = y2 + (Int32.ofInt 1) := ⟨_, rfl⟩
      refine pj_X_eqi hz31.symm ?_
      have fz31_0 : z31.toInt = y2.toInt + (Int32.ofInt 1).toInt := by rw [hz31]; exact pj_addI (by have := pj_i32 y2; have := pj_i32 (Int32.ofInt 1); omega) (by have := pj_i32 y2; have := pj_i32 (Int32.ofInt 1); omega)
      refine pj_X_of (fun r h => pj_T_pf iG30 rfl rfl rfl h) ?_
      show pj_X _ _ (pj_wv G30 171 6 (.int z31)) 76 [(0, .ref 171), (1, .int v1), (2, .int v2)] [] _
      obtain ⟨G32, hG32⟩ : ∃ H, H = pj_wv G30 171 6 (.int z31) := ⟨_, rfl⟩
      have iG32 : pj_Inv G32 := by rw [hG32]; exact pj_Inv_wi iG30 (ci := 12) rfl (fun q hq => by cases hq; exact ⟨by show (0 : Int) ≤ _; omega, by show _ ≤ (6 : Int); omega⟩)
      have kG32 : pj_kpt kc_196 G0 G32 := by rw [hG32]; exact pj_kpt_v kG30 rfl
      rw [← hG32]
      refine pj_X_of (fun r h => pj_R_to (G32, 79, [(2, .int (v2 + Int32.ofInt 1)), (0, .ref 171), (1, .int v1)], [], 0, 0) 79 2 (fun _ => rfl) h) ?_
      obtain ⟨z33, hz33⟩ : ∃ z : Int32, z = v2 + Int32.ofInt 1 := ⟨_, rfl⟩
      rw [← hz33]
      have fz33_0 : z33.toInt = v2.toInt + (Int32.ofInt 1).toInt := by rw [hz33]; exact pj_addI (by have := pj_i32 v2; have := pj_i32 (Int32.ofInt 1); omega) (by have := pj_i32 v2; have := pj_i32 (Int32.ofInt 1); omega)
      refine pj_X_of (fun r h => pj_R_to (G32, 19, [(2, .int z33), (0, .ref 171), (1, .int v1)], [], 0, 0) 19 2 (fun _ => rfl) h) ?_
      have q34 : (pj_fi G32 171 30).toInt = y1.toInt := by rw [show pj_fi G32 171 30 = y1 from by rw [hG32, pj_fi_wv_ne _ _ _ _ _ _ (by decide)]; exact (by rw [hG30, pj_fi_wa]; exact (by rw [hG26, pj_fi_wa]; exact hy1.symm))]
      have q35 : (pj_fi G32 171 6).toInt = z31.toInt := by rw [show pj_fi G32 171 6 = z31 from by rw [hG32]; exact pj_fi_wi iG30.1 (ci := 12) rfl _]
      have q36 : (pj_fi G32 171 22).toInt = y3.toInt := by rw [show pj_fi G32 171 22 = y3 from by rw [hG32, pj_fi_wv_ne _ _ _ _ _ _ (by decide)]; exact (by rw [hG30, pj_fi_wa]; exact (by rw [hG26, pj_fi_wa]; exact hy3.symm))]
      exact pj_X_sub [(0, .ref 171), (1, .int v1), (2, .int z33)] (show List.Nodup [0, 1, 2] by decide) ⟨rfl, rfl, rfl, trivial⟩ (ih G32 iG32 kG32 v1 z33 ⟨by omega, by omega⟩ ⟨by omega, by omega⟩ (by rw [show pj_fi G32 171 22 = pj_fi G 171 22 from by rw [hG32, pj_fi_wv_ne _ _ _ _ _ _ (by decide), hG30, pj_fi_wa, hG26, pj_fi_wa]]; exact pj_re_k (fun j => by rw [hG32, pj_ai_wv, hG30, pj_ai_wa_ne _ _ _ _ _ _ (by decide), hG26, pj_ai_wa_ne _ _ _ _ _ _ (by decide)]) x0_) (by omega) (by omega) (by omega) (by omega) (by omega))
theorem ct_196 (G0 : pj_G) (hI : pj_Inv G0) (p0_ : (pj_fi G0 171 30).toInt ≤ 15) : pj_Y 21 196 [.ref 171] G0 (fun v G' => ∃ y : Int32, v = some (.int y) ∧ pj_Inv G' ∧ pj_kpt kc_196 G0 G' ∧ ((-2147483648 : Int) ≤ y.toInt ∧ y.toInt ≤ 2147483647) ∧ ((pj_fi G' 171 30).toInt ≤ 15)) := by
  have c0_ : ((Int8.ofInt 24).toInt32).toInt = 24 := by decide
  have c1_ : (Int32.ofInt 0).toInt = 0 := by decide
  have c2_ : (Int32.ofInt 1).toInt = 1 := by decide
  have c3_ : (Int32.ofInt 2).toInt = 2 := by decide
  refine pj_Y_X (M := pj_m196) rfl rfl (Nat.le_of_ble_eq_true rfl) ?_
  have hK : pj_kpt kc_196 G0 G0 := pj_kpt_r _ _
  show pj_X _ _ G0 0 [(0, .ref 171)] [] _
  obtain ⟨y37, hy37⟩ : ∃ z : Int32, z = pj_fi G0 171 30 := ⟨_, rfl⟩
  have ey37 : (pj_fi G0 171 30).toInt = y37.toInt := by rw [hy37]
  have ry37 : (0 : Int) ≤ y37.toInt ∧ y37.toInt ≤ 16 := by rw [hy37]; exact hI.2.1 171 30 (0, 16) rfl
  obtain ⟨y38, hy38⟩ : ∃ z : Int32, z = pj_fi G0 171 6 := ⟨_, rfl⟩
  have ey38 : (pj_fi G0 171 6).toInt = y38.toInt := by rw [hy38]
  have ry38 : (0 : Int) ≤ y38.toInt ∧ y38.toInt ≤ 6 := by rw [hy38]; exact hI.2.1 171 6 (0, 6) rfl
  obtain ⟨y39, hy39⟩ : ∃ z : Int32, z = pj_fi G0 171 22 := ⟨_, rfl⟩
  have ey39 : (pj_fi G0 171 22).toInt = y39.toInt := by rw [hy39]
  have ry39 : (0 : Int) ≤ y39.toInt ∧ y39.toInt ≤ 10 := by rw [hy39]; exact hI.2.1 171 22 (0, 10) rfl
  refine pj_X_of (fun r h => pj_R_to (G0, 2, [(0, .ref 171)], [.int (Int32.ofInt 0), .ref 171], 0, 0) 2 3 (fun _ => rfl) h) ?_
  refine pj_X_of (fun r h => pj_T_pf hI rfl rfl rfl h) ?_
  show pj_X _ _ (pj_wv G0 171 0 (.int (Int32.ofInt 0))) 5 [(0, .ref 171)] [] _
  obtain ⟨G40, hG40⟩ : ∃ H, H = pj_wv G0 171 0 (.int (Int32.ofInt 0)) := ⟨_, rfl⟩
  have iG40 : pj_Inv G40 := by rw [hG40]; exact pj_Inv_wi hI (ci := 12) rfl (fun q hq => by cases hq)
  have kG40 : pj_kpt kc_196 G0 G40 := by rw [hG40]; exact pj_kpt_v hK rfl
  rw [← hG40]
  refine pj_X_of (fun r h => pj_R_to (G40, 7, [(0, .ref 171)], [.int (Int32.ofInt 0), .ref 171], 0, 0) 7 3 (fun _ => rfl) h) ?_
  have q41 : (pj_fi G40 171 30).toInt = y37.toInt := by rw [show pj_fi G40 171 30 = y37 from by rw [hG40, pj_fi_wv_ne _ _ _ _ _ _ (by decide)]; exact hy37.symm]
  have q42 : (pj_fi G40 171 6).toInt = y38.toInt := by rw [show pj_fi G40 171 6 = y38 from by rw [hG40, pj_fi_wv_ne _ _ _ _ _ _ (by decide)]; exact hy38.symm]
  have q43 : (pj_fi G40 171 22).toInt = y39.toInt := by rw [show pj_fi G40 171 22 = y39 from by rw [hG40, pj_fi_wv_ne _ _ _ _ _ _ (by decide)]; exact hy39.symm]
  refine pj_X_ca (vs := [.ref 171, .int (Int32.ofInt 0)]) rfl (fun _ => rfl) ⟨Nat.le_of_ble_eq_true rfl, Nat.le_of_ble_eq_true rfl, pj_T_rcv iG40 rfl⟩ ⟨rfl, rfl⟩ (pj_Y_up (by decide) (ct_194_0 G40 iG40 (Int32.ofInt 0) ⟨by omega, by omega⟩)) ?_
  rintro _ G45 ⟨y44, rfl, iG45, jG45, ry44, ey44⟩
  have kG45 : pj_kpt kc_196 G0 G45 := pj_kpt_t kG40 (pj_kpt_s jG45 rfl)
  have q46 : (pj_fi G45 171 30).toInt = (pj_fi G40 171 30).toInt := by rw [jG45.1 (171, 30) (by decide)]
  have q47 : (pj_fi G45 171 6).toInt = (pj_fi G40 171 6).toInt := by rw [jG45.1 (171, 6) (by decide)]
  obtain ⟨y48, hy48⟩ : ∃ z : Int32, z = pj_fi G45 171 30 := ⟨_, rfl⟩
  have ey48 : (pj_fi G45 171 30).toInt = y48.toInt := by rw [hy48]
  have ry48 : (0 : Int) ≤ y48.toInt ∧ y48.toInt ≤ 16 := by rw [hy48]; exact iG45.2.1 171 30 (0, 16) rfl
  obtain ⟨y49, hy49⟩ : ∃ z : Int32, z = pj_fi G45 171 6 := ⟨_, rfl⟩
  have ey49 : (pj_fi G45 171 6).toInt = y49.toInt := by rw [hy49]
  have ry49 : (0 : Int) ≤ y49.toInt ∧ y49.toInt ≤ 6 := by rw [hy49]; exact iG45.2.1 171 6 (0, 6) rfl
  obtain ⟨y50, hy50⟩ : ∃ z : Int32, z = pj_fi G45 171 22 := ⟨_, rfl⟩
  have ey50 : (pj_fi G45 171 22).toInt = y50.toInt := by rw [hy50]
  have ry50 : (0 : Int) ≤ y50.toInt ∧ y50.toInt ≤ 10 := by rw [hy50]; exact iG45.2.1 171 22 (0, 10) rfl
  show pj_X _ _ G45 10 [(0, .ref 171)] [.int y44] _
  refine pj_X_of (fun r h => pj_R_to (G45, 12, [(1, .int y44), (0, .ref 171)], [.int y44], 0, 0) 12 3 (fun _ => rfl) h) ?_
  cases b51 : pj_c1 .ge y44 0 with
  | true =>
    have ub51 := pj_u0_geT b51
    refine pj_X_of (fun r h => pj_R_ifT 17 rfl rfl b51 h) ?_
    refine pj_X_of (fun r h => pj_R_to (G45, 19, [(2, .int (Int32.ofInt 0)), (1, .int y44), (0, .ref 171)], [], 0, 0) 19 3 (fun _ => rfl) h) ?_
    have q52 : (pj_fi G45 171 30).toInt = y48.toInt := by rw [show pj_fi G45 171 30 = y48 from hy48.symm]
    have q53 : (pj_fi G45 171 6).toInt = y49.toInt := by rw [show pj_fi G45 171 6 = y49 from hy49.symm]
    have q54 : (pj_fi G45 171 22).toInt = y50.toInt := by rw [show pj_fi G45 171 22 = y50 from hy50.symm]
    exact pj_X_sub [(0, .ref 171), (1, .int y44), (2, .int (Int32.ofInt 0))] (show List.Nodup [0, 1, 2] by decide) ⟨rfl, rfl, rfl, trivial⟩ ((lp_ct_196 G0 hI   p0_ 7) G45 iG45 kG45 y44 (Int32.ofInt 0) ⟨by omega, by omega⟩ ⟨by omega, by omega⟩ (ey44.2 (by omega)) (by omega) (by omega) (by omega) (by omega) (by omega))
  | false =>
    have ub51 := pj_u0_geF b51
    refine pj_X_of (fun r h => pj_R_ifF rfl b51 h) ?_
    refine pj_X_of (fun r h => pj_R_to (G45, 16, [(1, .int y44), (0, .ref 171)], [.int y44], 0, 0) 16 2 (fun _ => rfl) h) ?_
    have q55 : (pj_fi G45 171 30).toInt = y48.toInt := by rw [show pj_fi G45 171 30 = y48 from hy48.symm]
    have q56 : (pj_fi G45 171 6).toInt = y49.toInt := by rw [show pj_fi G45 171 6 = y49 from hy49.symm]
    have q57 : (pj_fi G45 171 22).toInt = y50.toInt := by rw [show pj_fi G45 171 22 = y50 from hy50.symm]
    exact pj_X_rt rfl rfl ⟨_, rfl, iG45, kG45, pj_i32 _, by omega⟩
